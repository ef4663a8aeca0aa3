theorem dX9_init_0 : decode cX9_init 0 = .ok (.aload_n 0, 1) := by decide +kernel
theorem dX9_init_1 : decode cX9_init 1 = .ok (.invokespecial 1, 3) := by decide +kernel
theorem dX9_init_4 : decode cX9_init 4 = .ok (.aload_n 0, 1) := by decide +kernel
theorem dX9_init_5 : decode cX9_init 5 = .ok (.sipush 12256, 3) := by decide +kernel
theorem dX9_init_8 : decode cX9_init 8 = .ok (.newarray .int, 2) := by decide +kernel
theorem dX9_init_10 : decode cX9_init 10 = .ok (.putfield 7, 3) := by decide +kernel
theorem dX9_init_13 : decode cX9_init 13 = .ok (.aload_n 0, 1) := by decide +kernel
theorem dX9_init_14 : decode cX9_init 14 = .ok (.bipush 64, 2) := by decide +kernel
theorem dX9_init_16 : decode cX9_init 16 = .ok (.newarray .int, 2) := by decide +kernel
theorem dX9_init_18 : decode cX9_init 18 = .ok (.putfield 13, 3) := by decide +kernel
theorem dX9_init_21 : decode cX9_init 21 = .ok (.aload_n 0, 1) := by decide +kernel
theorem dX9_init_22 : decode cX9_init 22 = .ok (.sipush 240, 3) := by decide +kernel
theorem dX9_init_25 : decode cX9_init 25 = .ok (.newarray .byte, 2) := by decide +kernel
theorem dX9_init_27 : decode cX9_init 27 = .ok (.putfield 16, 3) := by decide +kernel
theorem dX9_init_30 : decode cX9_init 30 = .ok (.aload_n 0, 1) := by decide +kernel
theorem dX9_init_31 : decode cX9_init 31 = .ok (.iconst 5, 1) := by decide +kernel
theorem dX9_init_32 : decode cX9_init 32 = .ok (.newarray .int, 2) := by decide +kernel
theorem dX9_init_34 : decode cX9_init 34 = .ok (.putfield 20, 3) := by decide +kernel
theorem dX9_init_37 : decode cX9_init 37 = .ok (.aload_n 0, 1) := by decide +kernel
theorem dX9_init_38 : decode cX9_init 38 = .ok (.iconst 5, 1) := by decide +kernel
theorem dX9_init_39 : decode cX9_init 39 = .ok (.newarray .int, 2) := by decide +kernel
theorem dX9_init_41 : decode cX9_init 41 = .ok (.putfield 23, 3) := by decide +kernel
theorem dX9_init_44 : decode cX9_init 44 = .ok (.aload_n 0, 1) := by decide +kernel
theorem dX9_init_45 : decode cX9_init 45 = .ok (.iconst 5, 1) := by decide +kernel
theorem dX9_init_46 : decode cX9_init 46 = .ok (.newarray .int, 2) := by decide +kernel
theorem dX9_init_48 : decode cX9_init 48 = .ok (.putfield 26, 3) := by decide +kernel
theorem dX9_init_51 : decode cX9_init 51 = .ok (.aload_n 0, 1) := by decide +kernel
theorem dX9_init_52 : decode cX9_init 52 = .ok (.iconst 5, 1) := by decide +kernel
theorem dX9_init_53 : decode cX9_init 53 = .ok (.newarray .int, 2) := by decide +kernel
theorem dX9_init_55 : decode cX9_init 55 = .ok (.putfield 29, 3) := by decide +kernel
theorem dX9_init_58 : decode cX9_init 58 = .ok (.aload_n 0, 1) := by decide +kernel
theorem dX9_init_59 : decode cX9_init 59 = .ok (.bipush 9, 2) := by decide +kernel
theorem dX9_init_61 : decode cX9_init 61 = .ok (.newarray .int, 2) := by decide +kernel
theorem dX9_init_63 : decode cX9_init 63 = .ok (.putfield 32, 3) := by decide +kernel
theorem dX9_init_66 : decode cX9_init 66 = .ok (.aload_n 0, 1) := by decide +kernel
theorem dX9_init_67 : decode cX9_init 67 = .ok (.bipush 9, 2) := by decide +kernel
theorem dX9_init_69 : decode cX9_init 69 = .ok (.newarray .int, 2) := by decide +kernel
theorem dX9_init_71 : decode cX9_init 71 = .ok (.putfield 35, 3) := by decide +kernel
theorem dX9_init_74 : decode cX9_init 74 = .ok (.aload_n 0, 1) := by decide +kernel
theorem dX9_init_75 : decode cX9_init 75 = .ok (.bipush 40, 2) := by decide +kernel
theorem dX9_init_77 : decode cX9_init 77 = .ok (.newarray .int, 2) := by decide +kernel
theorem dX9_init_79 : decode cX9_init 79 = .ok (.putfield 38, 3) := by decide +kernel
theorem dX9_init_82 : decode cX9_init 82 = .ok (.aload_n 0, 1) := by decide +kernel
theorem dX9_init_83 : decode cX9_init 83 = .ok (.bipush 40, 2) := by decide +kernel
theorem dX9_init_85 : decode cX9_init 85 = .ok (.newarray .int, 2) := by decide +kernel
theorem dX9_init_87 : decode cX9_init 87 = .ok (.putfield 41, 3) := by decide +kernel
theorem dX9_init_90 : decode cX9_init 90 = .ok (.aload_n 0, 1) := by decide +kernel
theorem dX9_init_91 : decode cX9_init 91 = .ok (.bipush 40, 2) := by decide +kernel
theorem dX9_init_93 : decode cX9_init 93 = .ok (.newarray .int, 2) := by decide +kernel
theorem dX9_init_95 : decode cX9_init 95 = .ok (.putfield 44, 3) := by decide +kernel
theorem dX9_init_98 : decode cX9_init 98 = .ok (.aload_n 0, 1) := by decide +kernel
theorem dX9_init_99 : decode cX9_init 99 = .ok (.bipush 40, 2) := by decide +kernel
theorem dX9_init_101 : decode cX9_init 101 = .ok (.newarray .int, 2) := by decide +kernel
theorem dX9_init_103 : decode cX9_init 103 = .ok (.putfield 47, 3) := by decide +kernel
theorem dX9_init_106 : decode cX9_init 106 = .ok (.aload_n 0, 1) := by decide +kernel
theorem dX9_init_107 : decode cX9_init 107 = .ok (.bipush 40, 2) := by decide +kernel
theorem dX9_init_109 : decode cX9_init 109 = .ok (.newarray .int, 2) := by decide +kernel
theorem dX9_init_111 : decode cX9_init 111 = .ok (.putfield 50, 3) := by decide +kernel
theorem dX9_init_114 : decode cX9_init 114 = .ok (.aload_n 0, 1) := by decide +kernel
theorem dX9_init_115 : decode cX9_init 115 = .ok (.bipush 40, 2) := by decide +kernel
theorem dX9_init_117 : decode cX9_init 117 = .ok (.newarray .boolean, 2) := by decide +kernel
theorem dX9_init_119 : decode cX9_init 119 = .ok (.putfield 53, 3) := by decide +kernel
theorem dX9_init_122 : decode cX9_init 122 = .ok (.aload_n 0, 1) := by decide +kernel
theorem dX9_init_123 : decode cX9_init 123 = .ok (.bipush 40, 2) := by decide +kernel
theorem dX9_init_125 : decode cX9_init 125 = .ok (.newarray .boolean, 2) := by decide +kernel
theorem dX9_init_127 : decode cX9_init 127 = .ok (.putfield 57, 3) := by decide +kernel
theorem dX9_init_130 : decode cX9_init 130 = .ok (.aload_n 0, 1) := by decide +kernel
theorem dX9_init_131 : decode cX9_init 131 = .ok (.bipush 40, 2) := by decide +kernel
theorem dX9_init_133 : decode cX9_init 133 = .ok (.newarray .boolean, 2) := by decide +kernel
theorem dX9_init_135 : decode cX9_init 135 = .ok (.putfield 60, 3) := by decide +kernel
theorem dX9_init_138 : decode cX9_init 138 = .ok (.aload_n 0, 1) := by decide +kernel
theorem dX9_init_139 : decode cX9_init 139 = .ok (.sipush 1600, 3) := by decide +kernel
theorem dX9_init_142 : decode cX9_init 142 = .ok (.newarray .boolean, 2) := by decide +kernel
theorem dX9_init_144 : decode cX9_init 144 = .ok (.putfield 63, 3) := by decide +kernel
theorem dX9_init_147 : decode cX9_init 147 = .ok (.aload_n 0, 1) := by decide +kernel
theorem dX9_init_148 : decode cX9_init 148 = .ok (.bipush 24, 2) := by decide +kernel
theorem dX9_init_150 : decode cX9_init 150 = .ok (.newarray .long, 2) := by decide +kernel
theorem dX9_init_152 : decode cX9_init 152 = .ok (.putfield 66, 3) := by decide +kernel
theorem dX9_init_155 : decode cX9_init 155 = .ok (.aload_n 0, 1) := by decide +kernel
theorem dX9_init_156 : decode cX9_init 156 = .ok (.bipush 96, 2) := by decide +kernel
theorem dX9_init_158 : decode cX9_init 158 = .ok (.newarray .int, 2) := by decide +kernel
theorem dX9_init_160 : decode cX9_init 160 = .ok (.putfield 70, 3) := by decide +kernel
theorem dX9_init_163 : decode cX9_init 163 = .ok (.aload_n 0, 1) := by decide +kernel
theorem dX9_init_164 : decode cX9_init 164 = .ok (.invokevirtual 73, 3) := by decide +kernel
theorem dX9_init_167 : decode cX9_init 167 = .ok (.aload_n 0, 1) := by decide +kernel
theorem dX9_init_168 : decode cX9_init 168 = .ok (.invokevirtual 76, 3) := by decide +kernel
theorem dX9_init_171 : decode cX9_init 171 = .ok (.aload_n 0, 1) := by decide +kernel
theorem dX9_init_172 : decode cX9_init 172 = .ok (.getfield 7, 3) := by decide +kernel
theorem dX9_init_175 : decode cX9_init 175 = .ok (.bipush 6, 2) := by decide +kernel
theorem dX9_init_177 : decode cX9_init 177 = .ok (.iconst 1, 1) := by decide +kernel
theorem dX9_init_178 : decode cX9_init 178 = .ok (.iastore, 1) := by decide +kernel
theorem dX9_init_179 : decode cX9_init 179 = .ok (.return_, 1) := by decide +kernel
theorem dX9_in_0 : decode cX9_in 0 = .ok (.iload_n 0, 1) := by decide +kernel
theorem dX9_in_1 : decode cX9_in 1 = .ok (.iload_n 1, 1) := by decide +kernel
theorem dX9_in_2 : decode cX9_in 2 = .ok (.if_icmp .lt 12, 3) := by decide +kernel
theorem dX9_in_5 : decode cX9_in 5 = .ok (.iload_n 0, 1) := by decide +kernel
theorem dX9_in_6 : decode cX9_in 6 = .ok (.iload_n 2, 1) := by decide +kernel
theorem dX9_in_7 : decode cX9_in 7 = .ok (.if_icmp .gt 7, 3) := by decide +kernel
theorem dX9_in_10 : decode cX9_in 10 = .ok (.iconst 1, 1) := by decide +kernel
theorem dX9_in_11 : decode cX9_in 11 = .ok (.goto 4, 3) := by decide +kernel
theorem dX9_in_14 : decode cX9_in 14 = .ok (.iconst 0, 1) := by decide +kernel
theorem dX9_in_15 : decode cX9_in 15 = .ok (.ireturn, 1) := by decide +kernel
theorem dX9_min_0 : decode cX9_min 0 = .ok (.iload_n 0, 1) := by decide +kernel
theorem dX9_min_1 : decode cX9_min 1 = .ok (.iload_n 1, 1) := by decide +kernel
theorem dX9_min_2 : decode cX9_min 2 = .ok (.if_icmp .ge 7, 3) := by decide +kernel
theorem dX9_min_5 : decode cX9_min 5 = .ok (.iload_n 0, 1) := by decide +kernel
theorem dX9_min_6 : decode cX9_min 6 = .ok (.goto 4, 3) := by decide +kernel
theorem dX9_min_9 : decode cX9_min 9 = .ok (.iload_n 1, 1) := by decide +kernel
theorem dX9_min_10 : decode cX9_min 10 = .ok (.ireturn, 1) := by decide +kernel
theorem dX9_max_0 : decode cX9_max 0 = .ok (.iload_n 0, 1) := by decide +kernel
theorem dX9_max_1 : decode cX9_max 1 = .ok (.iload_n 1, 1) := by decide +kernel
theorem dX9_max_2 : decode cX9_max 2 = .ok (.if_icmp .le 7, 3) := by decide +kernel
theorem dX9_max_5 : decode cX9_max 5 = .ok (.iload_n 0, 1) := by decide +kernel
theorem dX9_max_6 : decode cX9_max 6 = .ok (.goto 4, 3) := by decide +kernel
theorem dX9_max_9 : decode cX9_max 9 = .ok (.iload_n 1, 1) := by decide +kernel
theorem dX9_max_10 : decode cX9_max 10 = .ok (.ireturn, 1) := by decide +kernel
theorem dX9_has_0 : decode cX9_has 0 = .ok (.iload_n 0, 1) := by decide +kernel
theorem dX9_has_1 : decode cX9_has 1 = .ok (.iload_n 1, 1) := by decide +kernel
theorem dX9_has_2 : decode cX9_has 2 = .ok (.ishr, 1) := by decide +kernel
theorem dX9_has_3 : decode cX9_has 3 = .ok (.iconst 1, 1) := by decide +kernel
theorem dX9_has_4 : decode cX9_has 4 = .ok (.iand, 1) := by decide +kernel
theorem dX9_has_5 : decode cX9_has 5 = .ok (.iconst 1, 1) := by decide +kernel
theorem dX9_has_6 : decode cX9_has 6 = .ok (.if_icmp .ne 7, 3) := by decide +kernel
theorem dX9_has_9 : decode cX9_has 9 = .ok (.iconst 1, 1) := by decide +kernel
theorem dX9_has_10 : decode cX9_has 10 = .ok (.goto 4, 3) := by decide +kernel
theorem dX9_has_13 : decode cX9_has 13 = .ok (.iconst 0, 1) := by decide +kernel
theorem dX9_has_14 : decode cX9_has 14 = .ok (.ireturn, 1) := by decide +kernel
theorem dX9_sizeOf_0 : decode cX9_sizeOf 0 = .ok (.iconst 0, 1) := by decide +kernel
theorem dX9_sizeOf_1 : decode cX9_sizeOf 1 = .ok (.istore_n 1, 1) := by decide +kernel
theorem dX9_sizeOf_2 : decode cX9_sizeOf 2 = .ok (.iload_n 0, 1) := by decide +kernel
theorem dX9_sizeOf_3 : decode cX9_sizeOf 3 = .ok (.istore_n 2, 1) := by decide +kernel
theorem dX9_sizeOf_4 : decode cX9_sizeOf 4 = .ok (.iload_n 2, 1) := by decide +kernel
theorem dX9_sizeOf_5 : decode cX9_sizeOf 5 = .ok (.ifCond .eq 16, 3) := by decide +kernel
theorem dX9_sizeOf_8 : decode cX9_sizeOf 8 = .ok (.iload_n 1, 1) := by decide +kernel
theorem dX9_sizeOf_9 : decode cX9_sizeOf 9 = .ok (.iconst 1, 1) := by decide +kernel
theorem dX9_sizeOf_10 : decode cX9_sizeOf 10 = .ok (.iadd, 1) := by decide +kernel
theorem dX9_sizeOf_11 : decode cX9_sizeOf 11 = .ok (.istore_n 1, 1) := by decide +kernel
theorem dX9_sizeOf_12 : decode cX9_sizeOf 12 = .ok (.iload_n 2, 1) := by decide +kernel
theorem dX9_sizeOf_13 : decode cX9_sizeOf 13 = .ok (.iload_n 2, 1) := by decide +kernel
theorem dX9_sizeOf_14 : decode cX9_sizeOf 14 = .ok (.iconst 1, 1) := by decide +kernel
theorem dX9_sizeOf_15 : decode cX9_sizeOf 15 = .ok (.isub, 1) := by decide +kernel
theorem dX9_sizeOf_16 : decode cX9_sizeOf 16 = .ok (.iand, 1) := by decide +kernel
theorem dX9_sizeOf_17 : decode cX9_sizeOf 17 = .ok (.istore_n 2, 1) := by decide +kernel
theorem dX9_sizeOf_18 : decode cX9_sizeOf 18 = .ok (.goto (-14), 3) := by decide +kernel
theorem dX9_sizeOf_21 : decode cX9_sizeOf 21 = .ok (.iload_n 1, 1) := by decide +kernel
theorem dX9_sizeOf_22 : decode cX9_sizeOf 22 = .ok (.ireturn, 1) := by decide +kernel
theorem dX9_copies_0 : decode cX9_copies 0 = .ok (.iconst 0, 1) := by decide +kernel
theorem dX9_copies_1 : decode cX9_copies 1 = .ok (.istore_n 3, 1) := by decide +kernel
theorem dX9_copies_2 : decode cX9_copies 2 = .ok (.iload_n 3, 1) := by decide +kernel
theorem dX9_copies_3 : decode cX9_copies 3 = .ok (.sipush 3064, 3) := by decide +kernel
theorem dX9_copies_6 : decode cX9_copies 6 = .ok (.if_icmp .ge 33, 3) := by decide +kernel
theorem dX9_copies_9 : decode cX9_copies 9 = .ok (.aload_n 0, 1) := by decide +kernel
theorem dX9_copies_10 : decode cX9_copies 10 = .ok (.getfield 7, 3) := by decide +kernel
theorem dX9_copies_13 : decode cX9_copies 13 = .ok (.sipush 3064, 3) := by decide +kernel
theorem dX9_copies_16 : decode cX9_copies 16 = .ok (.iload_n 2, 1) := by decide +kernel
theorem dX9_copies_17 : decode cX9_copies 17 = .ok (.imul, 1) := by decide +kernel
theorem dX9_copies_18 : decode cX9_copies 18 = .ok (.iload_n 3, 1) := by decide +kernel
theorem dX9_copies_19 : decode cX9_copies 19 = .ok (.iadd, 1) := by decide +kernel
theorem dX9_copies_20 : decode cX9_copies 20 = .ok (.aload_n 0, 1) := by decide +kernel
theorem dX9_copies_21 : decode cX9_copies 21 = .ok (.getfield 7, 3) := by decide +kernel
theorem dX9_copies_24 : decode cX9_copies 24 = .ok (.sipush 3064, 3) := by decide +kernel
theorem dX9_copies_27 : decode cX9_copies 27 = .ok (.iload_n 1, 1) := by decide +kernel
theorem dX9_copies_28 : decode cX9_copies 28 = .ok (.imul, 1) := by decide +kernel
theorem dX9_copies_29 : decode cX9_copies 29 = .ok (.iload_n 3, 1) := by decide +kernel
theorem dX9_copies_30 : decode cX9_copies 30 = .ok (.iadd, 1) := by decide +kernel
theorem dX9_copies_31 : decode cX9_copies 31 = .ok (.iaload, 1) := by decide +kernel
theorem dX9_copies_32 : decode cX9_copies 32 = .ok (.iastore, 1) := by decide +kernel
theorem dX9_copies_33 : decode cX9_copies 33 = .ok (.iinc 3 1, 3) := by decide +kernel
theorem dX9_copies_36 : decode cX9_copies 36 = .ok (.goto (-34), 3) := by decide +kernel
theorem dX9_copies_39 : decode cX9_copies 39 = .ok (.return_, 1) := by decide +kernel
theorem dX9_of_0 : decode cX9_of 0 = .ok (.aload_n 0, 1) := by decide +kernel
theorem dX9_of_1 : decode cX9_of 1 = .ok (.getfield 7, 3) := by decide +kernel
theorem dX9_of_4 : decode cX9_of 4 = .ok (.bipush 64, 2) := by decide +kernel
theorem dX9_of_6 : decode cX9_of 6 = .ok (.bipush 10, 2) := by decide +kernel
theorem dX9_of_8 : decode cX9_of 8 = .ok (.iload_n 1, 1) := by decide +kernel
theorem dX9_of_9 : decode cX9_of 9 = .ok (.imul, 1) := by decide +kernel
theorem dX9_of_10 : decode cX9_of 10 = .ok (.iadd, 1) := by decide +kernel
theorem dX9_of_11 : decode cX9_of 11 = .ok (.iload_n 2, 1) := by decide +kernel
theorem dX9_of_12 : decode cX9_of 12 = .ok (.iadd, 1) := by decide +kernel
theorem dX9_of_13 : decode cX9_of 13 = .ok (.iaload, 1) := by decide +kernel
theorem dX9_of_14 : decode cX9_of 14 = .ok (.ireturn, 1) := by decide +kernel
theorem dX9_sets_0 : decode cX9_sets 0 = .ok (.aload_n 0, 1) := by decide +kernel
theorem dX9_sets_1 : decode cX9_sets 1 = .ok (.getfield 7, 3) := by decide +kernel
theorem dX9_sets_4 : decode cX9_sets 4 = .ok (.bipush 64, 2) := by decide +kernel
theorem dX9_sets_6 : decode cX9_sets 6 = .ok (.bipush 10, 2) := by decide +kernel
theorem dX9_sets_8 : decode cX9_sets 8 = .ok (.iload_n 1, 1) := by decide +kernel
theorem dX9_sets_9 : decode cX9_sets 9 = .ok (.imul, 1) := by decide +kernel
theorem dX9_sets_10 : decode cX9_sets 10 = .ok (.iadd, 1) := by decide +kernel
theorem dX9_sets_11 : decode cX9_sets 11 = .ok (.iload_n 2, 1) := by decide +kernel
theorem dX9_sets_12 : decode cX9_sets 12 = .ok (.iadd, 1) := by decide +kernel
theorem dX9_sets_13 : decode cX9_sets 13 = .ok (.iload_n 3, 1) := by decide +kernel
theorem dX9_sets_14 : decode cX9_sets 14 = .ok (.iastore, 1) := by decide +kernel
theorem dX9_sets_15 : decode cX9_sets 15 = .ok (.return_, 1) := by decide +kernel
theorem dX9_isLit_0 : decode cX9_isLit 0 = .ok (.aload_n 0, 1) := by decide +kernel
theorem dX9_isLit_1 : decode cX9_isLit 1 = .ok (.iload_n 1, 1) := by decide +kernel
theorem dX9_isLit_2 : decode cX9_isLit 2 = .ok (.iconst 3, 1) := by decide +kernel
theorem dX9_isLit_3 : decode cX9_isLit 3 = .ok (.invokevirtual 79, 3) := by decide +kernel
theorem dX9_isLit_6 : decode cX9_isLit 6 = .ok (.ifCond .ne 7, 3) := by decide +kernel
theorem dX9_isLit_9 : decode cX9_isLit 9 = .ok (.iconst 1, 1) := by decide +kernel
theorem dX9_isLit_10 : decode cX9_isLit 10 = .ok (.goto 4, 3) := by decide +kernel
theorem dX9_isLit_13 : decode cX9_isLit 13 = .ok (.iconst 0, 1) := by decide +kernel
theorem dX9_isLit_14 : decode cX9_isLit 14 = .ok (.ireturn, 1) := by decide +kernel
theorem dX9_isDemand_0 : decode cX9_isDemand 0 = .ok (.iload_n 1, 1) := by decide +kernel
theorem dX9_isDemand_1 : decode cX9_isDemand 1 = .ok (.iconst 0, 1) := by decide +kernel
theorem dX9_isDemand_2 : decode cX9_isDemand 2 = .ok (.aload_n 0, 1) := by decide +kernel
theorem dX9_isDemand_3 : decode cX9_isDemand 3 = .ok (.getfield 7, 3) := by decide +kernel
theorem dX9_isDemand_6 : decode cX9_isDemand 6 = .ok (.bipush 7, 2) := by decide +kernel
theorem dX9_isDemand_8 : decode cX9_isDemand 8 = .ok (.iaload, 1) := by decide +kernel
theorem dX9_isDemand_9 : decode cX9_isDemand 9 = .ok (.iconst 1, 1) := by decide +kernel
theorem dX9_isDemand_10 : decode cX9_isDemand 10 = .ok (.isub, 1) := by decide +kernel
theorem dX9_isDemand_11 : decode cX9_isDemand 11 = .ok (.invokestatic 83, 3) := by decide +kernel
theorem dX9_isDemand_14 : decode cX9_isDemand 14 = .ok (.ireturn, 1) := by decide +kernel
theorem dX9_isRule_0 : decode cX9_isRule 0 = .ok (.iload_n 0, 1) := by decide +kernel
theorem dX9_isRule_1 : decode cX9_isRule 1 = .ok (.iconst 0, 1) := by decide +kernel
theorem dX9_isRule_2 : decode cX9_isRule 2 = .ok (.iconst 3, 1) := by decide +kernel
theorem dX9_isRule_3 : decode cX9_isRule 3 = .ok (.invokestatic 83, 3) := by decide +kernel
theorem dX9_isRule_6 : decode cX9_isRule 6 = .ok (.ireturn, 1) := by decide +kernel
theorem dX9_types_0 : decode cX9_types 0 = .ok (.iconst 3, 1) := by decide +kernel
theorem dX9_types_1 : decode cX9_types 1 = .ok (.istore_n 2, 1) := by decide +kernel
theorem dX9_types_2 : decode cX9_types 2 = .ok (.iload_n 2, 1) := by decide +kernel
theorem dX9_types_3 : decode cX9_types 3 = .ok (.ifCond .lt 35, 3) := by decide +kernel
theorem dX9_types_6 : decode cX9_types 6 = .ok (.aload_n 0, 1) := by decide +kernel
theorem dX9_types_7 : decode cX9_types 7 = .ok (.getfield 16, 3) := by decide +kernel
theorem dX9_types_10 : decode cX9_types 10 = .ok (.aload_n 0, 1) := by decide +kernel
theorem dX9_types_11 : decode cX9_types 11 = .ok (.getfield 87, 3) := by decide +kernel
theorem dX9_types_14 : decode cX9_types 14 = .ok (.iload_n 1, 1) := by decide +kernel
theorem dX9_types_15 : decode cX9_types 15 = .ok (.bipush 8, 2) := by decide +kernel
theorem dX9_types_17 : decode cX9_types 17 = .ok (.iload_n 2, 1) := by decide +kernel
theorem dX9_types_18 : decode cX9_types 18 = .ok (.imul, 1) := by decide +kernel
theorem dX9_types_19 : decode cX9_types 19 = .ok (.ishr, 1) := by decide +kernel
theorem dX9_types_20 : decode cX9_types 20 = .ok (.i2b, 1) := by decide +kernel
theorem dX9_types_21 : decode cX9_types 21 = .ok (.bastore, 1) := by decide +kernel
theorem dX9_types_22 : decode cX9_types 22 = .ok (.aload_n 0, 1) := by decide +kernel
theorem dX9_types_23 : decode cX9_types 23 = .ok (.aload_n 0, 1) := by decide +kernel
theorem dX9_types_24 : decode cX9_types 24 = .ok (.getfield 87, 3) := by decide +kernel
theorem dX9_types_27 : decode cX9_types 27 = .ok (.iconst 1, 1) := by decide +kernel
theorem dX9_types_28 : decode cX9_types 28 = .ok (.iadd, 1) := by decide +kernel
theorem dX9_types_29 : decode cX9_types 29 = .ok (.putfield 87, 3) := by decide +kernel
theorem dX9_types_32 : decode cX9_types 32 = .ok (.iinc 2 (-1), 3) := by decide +kernel
theorem dX9_types_35 : decode cX9_types 35 = .ok (.goto (-33), 3) := by decide +kernel
theorem dX9_types_38 : decode cX9_types 38 = .ok (.return_, 1) := by decide +kernel
theorem dX9_feed_0 : decode cX9_feed 0 = .ok (.aload_n 0, 1) := by decide +kernel
theorem dX9_feed_1 : decode cX9_feed 1 = .ok (.getfield 87, 3) := by decide +kernel
theorem dX9_feed_4 : decode cX9_feed 4 = .ok (.bipush 20, 2) := by decide +kernel
theorem dX9_feed_6 : decode cX9_feed 6 = .ok (.iadd, 1) := by decide +kernel
theorem dX9_feed_7 : decode cX9_feed 7 = .ok (.sipush 240, 3) := by decide +kernel
theorem dX9_feed_10 : decode cX9_feed 10 = .ok (.if_icmp .le 5, 3) := by decide +kernel
theorem dX9_feed_13 : decode cX9_feed 13 = .ok (.iconst (-1), 1) := by decide +kernel
theorem dX9_feed_14 : decode cX9_feed 14 = .ok (.ireturn, 1) := by decide +kernel
theorem dX9_feed_15 : decode cX9_feed 15 = .ok (.aload_n 0, 1) := by decide +kernel
theorem dX9_feed_16 : decode cX9_feed 16 = .ok (.iload_n 1, 1) := by decide +kernel
theorem dX9_feed_17 : decode cX9_feed 17 = .ok (.invokevirtual 91, 3) := by decide +kernel
theorem dX9_feed_20 : decode cX9_feed 20 = .ok (.aload_n 0, 1) := by decide +kernel
theorem dX9_feed_21 : decode cX9_feed 21 = .ok (.iload_n 2, 1) := by decide +kernel
theorem dX9_feed_22 : decode cX9_feed 22 = .ok (.invokevirtual 91, 3) := by decide +kernel
theorem dX9_feed_25 : decode cX9_feed 25 = .ok (.aload_n 0, 1) := by decide +kernel
theorem dX9_feed_26 : decode cX9_feed 26 = .ok (.iload_n 3, 1) := by decide +kernel
theorem dX9_feed_27 : decode cX9_feed 27 = .ok (.invokevirtual 91, 3) := by decide +kernel
theorem dX9_feed_30 : decode cX9_feed 30 = .ok (.aload_n 0, 1) := by decide +kernel
theorem dX9_feed_31 : decode cX9_feed 31 = .ok (.iload 4, 2) := by decide +kernel
theorem dX9_feed_33 : decode cX9_feed 33 = .ok (.invokevirtual 91, 3) := by decide +kernel
theorem dX9_feed_36 : decode cX9_feed 36 = .ok (.aload_n 0, 1) := by decide +kernel
theorem dX9_feed_37 : decode cX9_feed 37 = .ok (.iload 5, 2) := by decide +kernel
theorem dX9_feed_39 : decode cX9_feed 39 = .ok (.invokevirtual 91, 3) := by decide +kernel
theorem dX9_feed_42 : decode cX9_feed 42 = .ok (.aload_n 0, 1) := by decide +kernel
theorem dX9_feed_43 : decode cX9_feed 43 = .ok (.getfield 87, 3) := by decide +kernel
theorem dX9_feed_46 : decode cX9_feed 46 = .ok (.ireturn, 1) := by decide +kernel
theorem dX9_here_0 : decode cX9_here 0 = .ok (.aload_n 0, 1) := by decide +kernel
theorem dX9_here_1 : decode cX9_here 1 = .ok (.getfield 95, 3) := by decide +kernel
theorem dX9_here_4 : decode cX9_here 4 = .ok (.aload_n 0, 1) := by decide +kernel
theorem dX9_here_5 : decode cX9_here 5 = .ok (.getfield 98, 3) := by decide +kernel
theorem dX9_here_8 : decode cX9_here 8 = .ok (.if_icmp .ge 19, 3) := by decide +kernel
theorem dX9_here_11 : decode cX9_here 11 = .ok (.aload_n 0, 1) := by decide +kernel
theorem dX9_here_12 : decode cX9_here 12 = .ok (.getfield 16, 3) := by decide +kernel
theorem dX9_here_15 : decode cX9_here 15 = .ok (.aload_n 0, 1) := by decide +kernel
theorem dX9_here_16 : decode cX9_here 16 = .ok (.getfield 95, 3) := by decide +kernel
theorem dX9_here_19 : decode cX9_here 19 = .ok (.baload, 1) := by decide +kernel
theorem dX9_here_20 : decode cX9_here 20 = .ok (.sipush 255, 3) := by decide +kernel
theorem dX9_here_23 : decode cX9_here 23 = .ok (.iand, 1) := by decide +kernel
theorem dX9_here_24 : decode cX9_here 24 = .ok (.goto 4, 3) := by decide +kernel
theorem dX9_here_27 : decode cX9_here 27 = .ok (.iconst (-1), 1) := by decide +kernel
theorem dX9_here_28 : decode cX9_here 28 = .ok (.ireturn, 1) := by decide +kernel
theorem dX9_wrongAt_0 : decode cX9_wrongAt 0 = .ok (.aload_n 0, 1) := by decide +kernel
theorem dX9_wrongAt_1 : decode cX9_wrongAt 1 = .ok (.sipush (-1000), 3) := by decide +kernel
theorem dX9_wrongAt_4 : decode cX9_wrongAt 4 = .ok (.iload_n 1, 1) := by decide +kernel
theorem dX9_wrongAt_5 : decode cX9_wrongAt 5 = .ok (.imul, 1) := by decide +kernel
theorem dX9_wrongAt_6 : decode cX9_wrongAt 6 = .ok (.iload_n 2, 1) := by decide +kernel
theorem dX9_wrongAt_7 : decode cX9_wrongAt 7 = .ok (.isub, 1) := by decide +kernel
theorem dX9_wrongAt_8 : decode cX9_wrongAt 8 = .ok (.putfield 101, 3) := by decide +kernel
theorem dX9_wrongAt_11 : decode cX9_wrongAt 11 = .ok (.iconst 0, 1) := by decide +kernel
theorem dX9_wrongAt_12 : decode cX9_wrongAt 12 = .ok (.ireturn, 1) := by decide +kernel
theorem dX9_takesSign_0 : decode cX9_takesSign 0 = .ok (.aload_n 0, 1) := by decide +kernel
theorem dX9_takesSign_1 : decode cX9_takesSign 1 = .ok (.invokevirtual 104, 3) := by decide +kernel
theorem dX9_takesSign_4 : decode cX9_takesSign 4 = .ok (.iload_n 1, 1) := by decide +kernel
theorem dX9_takesSign_5 : decode cX9_takesSign 5 = .ok (.if_icmp .eq 13, 3) := by decide +kernel
theorem dX9_takesSign_8 : decode cX9_takesSign 8 = .ok (.aload_n 0, 1) := by decide +kernel
theorem dX9_takesSign_9 : decode cX9_takesSign 9 = .ok (.iconst 1, 1) := by decide +kernel
theorem dX9_takesSign_10 : decode cX9_takesSign 10 = .ok (.aload_n 0, 1) := by decide +kernel
theorem dX9_takesSign_11 : decode cX9_takesSign 11 = .ok (.getfield 95, 3) := by decide +kernel
theorem dX9_takesSign_14 : decode cX9_takesSign 14 = .ok (.invokevirtual 108, 3) := by decide +kernel
theorem dX9_takesSign_17 : decode cX9_takesSign 17 = .ok (.ireturn, 1) := by decide +kernel
theorem dX9_takesSign_18 : decode cX9_takesSign 18 = .ok (.aload_n 0, 1) := by decide +kernel
theorem dX9_takesSign_19 : decode cX9_takesSign 19 = .ok (.aload_n 0, 1) := by decide +kernel
theorem dX9_takesSign_20 : decode cX9_takesSign 20 = .ok (.getfield 95, 3) := by decide +kernel
theorem dX9_takesSign_23 : decode cX9_takesSign 23 = .ok (.iconst 1, 1) := by decide +kernel
theorem dX9_takesSign_24 : decode cX9_takesSign 24 = .ok (.iadd, 1) := by decide +kernel
theorem dX9_takesSign_25 : decode cX9_takesSign 25 = .ok (.putfield 95, 3) := by decide +kernel
theorem dX9_takesSign_28 : decode cX9_takesSign 28 = .ok (.iconst 1, 1) := by decide +kernel
theorem dX9_takesSign_29 : decode cX9_takesSign 29 = .ok (.ireturn, 1) := by decide +kernel
theorem dX9_isDigit_0 : decode cX9_isDigit 0 = .ok (.iload_n 0, 1) := by decide +kernel
theorem dX9_isDigit_1 : decode cX9_isDigit 1 = .ok (.bipush 48, 2) := by decide +kernel
theorem dX9_isDigit_3 : decode cX9_isDigit 3 = .ok (.bipush 57, 2) := by decide +kernel
theorem dX9_isDigit_5 : decode cX9_isDigit 5 = .ok (.invokestatic 83, 3) := by decide +kernel
theorem dX9_isDigit_8 : decode cX9_isDigit 8 = .ok (.ireturn, 1) := by decide +kernel
theorem dX9_readsWord_0 : decode cX9_readsWord 0 = .ok (.aload_n 0, 1) := by decide +kernel
theorem dX9_readsWord_1 : decode cX9_readsWord 1 = .ok (.aload_n 0, 1) := by decide +kernel
theorem dX9_readsWord_2 : decode cX9_readsWord 2 = .ok (.getfield 95, 3) := by decide +kernel
theorem dX9_readsWord_5 : decode cX9_readsWord 5 = .ok (.putfield 112, 3) := by decide +kernel
theorem dX9_readsWord_8 : decode cX9_readsWord 8 = .ok (.aload_n 0, 1) := by decide +kernel
theorem dX9_readsWord_9 : decode cX9_readsWord 9 = .ok (.lconst 0, 1) := by decide +kernel
theorem dX9_readsWord_10 : decode cX9_readsWord 10 = .ok (.putfield 115, 3) := by decide +kernel
theorem dX9_readsWord_13 : decode cX9_readsWord 13 = .ok (.aload_n 0, 1) := by decide +kernel
theorem dX9_readsWord_14 : decode cX9_readsWord 14 = .ok (.invokevirtual 104, 3) := by decide +kernel
theorem dX9_readsWord_17 : decode cX9_readsWord 17 = .ok (.bipush 97, 2) := by decide +kernel
theorem dX9_readsWord_19 : decode cX9_readsWord 19 = .ok (.bipush 122, 2) := by decide +kernel
theorem dX9_readsWord_21 : decode cX9_readsWord 21 = .ok (.invokestatic 83, 3) := by decide +kernel
theorem dX9_readsWord_24 : decode cX9_readsWord 24 = .ok (.ifCond .eq 54, 3) := by decide +kernel
theorem dX9_readsWord_27 : decode cX9_readsWord 27 = .ok (.aload_n 0, 1) := by decide +kernel
theorem dX9_readsWord_28 : decode cX9_readsWord 28 = .ok (.getfield 95, 3) := by decide +kernel
theorem dX9_readsWord_31 : decode cX9_readsWord 31 = .ok (.aload_n 0, 1) := by decide +kernel
theorem dX9_readsWord_32 : decode cX9_readsWord 32 = .ok (.getfield 112, 3) := by decide +kernel
theorem dX9_readsWord_35 : decode cX9_readsWord 35 = .ok (.isub, 1) := by decide +kernel
theorem dX9_readsWord_36 : decode cX9_readsWord 36 = .ok (.bipush 8, 2) := by decide +kernel
theorem dX9_readsWord_38 : decode cX9_readsWord 38 = .ok (.if_icmp .ge 27, 3) := by decide +kernel
theorem dX9_readsWord_41 : decode cX9_readsWord 41 = .ok (.aload_n 0, 1) := by decide +kernel
theorem dX9_readsWord_42 : decode cX9_readsWord 42 = .ok (.ldc2_w 119, 3) := by decide +kernel
theorem dX9_readsWord_45 : decode cX9_readsWord 45 = .ok (.aload_n 0, 1) := by decide +kernel
theorem dX9_readsWord_46 : decode cX9_readsWord 46 = .ok (.getfield 115, 3) := by decide +kernel
theorem dX9_readsWord_49 : decode cX9_readsWord 49 = .ok (.lmul, 1) := by decide +kernel
theorem dX9_readsWord_50 : decode cX9_readsWord 50 = .ok (.aload_n 0, 1) := by decide +kernel
theorem dX9_readsWord_51 : decode cX9_readsWord 51 = .ok (.invokevirtual 104, 3) := by decide +kernel
theorem dX9_readsWord_54 : decode cX9_readsWord 54 = .ok (.i2l, 1) := by decide +kernel
theorem dX9_readsWord_55 : decode cX9_readsWord 55 = .ok (.ladd, 1) := by decide +kernel
theorem dX9_readsWord_56 : decode cX9_readsWord 56 = .ok (.ldc2_w 121, 3) := by decide +kernel
theorem dX9_readsWord_59 : decode cX9_readsWord 59 = .ok (.lsub, 1) := by decide +kernel
theorem dX9_readsWord_60 : decode cX9_readsWord 60 = .ok (.lconst 1, 1) := by decide +kernel
theorem dX9_readsWord_61 : decode cX9_readsWord 61 = .ok (.ladd, 1) := by decide +kernel
theorem dX9_readsWord_62 : decode cX9_readsWord 62 = .ok (.putfield 115, 3) := by decide +kernel
theorem dX9_readsWord_65 : decode cX9_readsWord 65 = .ok (.aload_n 0, 1) := by decide +kernel
theorem dX9_readsWord_66 : decode cX9_readsWord 66 = .ok (.aload_n 0, 1) := by decide +kernel
theorem dX9_readsWord_67 : decode cX9_readsWord 67 = .ok (.getfield 95, 3) := by decide +kernel
theorem dX9_readsWord_70 : decode cX9_readsWord 70 = .ok (.iconst 1, 1) := by decide +kernel
theorem dX9_readsWord_71 : decode cX9_readsWord 71 = .ok (.iadd, 1) := by decide +kernel
theorem dX9_readsWord_72 : decode cX9_readsWord 72 = .ok (.putfield 95, 3) := by decide +kernel
theorem dX9_readsWord_75 : decode cX9_readsWord 75 = .ok (.goto (-62), 3) := by decide +kernel
theorem dX9_readsWord_78 : decode cX9_readsWord 78 = .ok (.aload_n 0, 1) := by decide +kernel
theorem dX9_readsWord_79 : decode cX9_readsWord 79 = .ok (.getfield 95, 3) := by decide +kernel
theorem dX9_readsWord_82 : decode cX9_readsWord 82 = .ok (.aload_n 0, 1) := by decide +kernel
theorem dX9_readsWord_83 : decode cX9_readsWord 83 = .ok (.getfield 112, 3) := by decide +kernel
theorem dX9_readsWord_86 : decode cX9_readsWord 86 = .ok (.isub, 1) := by decide +kernel
theorem dX9_readsWord_87 : decode cX9_readsWord 87 = .ok (.bipush 8, 2) := by decide +kernel
theorem dX9_readsWord_89 : decode cX9_readsWord 89 = .ok (.if_icmp .le 10, 3) := by decide +kernel
theorem dX9_readsWord_92 : decode cX9_readsWord 92 = .ok (.aload_n 0, 1) := by decide +kernel
theorem dX9_readsWord_93 : decode cX9_readsWord 93 = .ok (.ldc2_w 123, 3) := by decide +kernel
theorem dX9_readsWord_96 : decode cX9_readsWord 96 = .ok (.putfield 115, 3) := by decide +kernel
theorem dX9_readsWord_99 : decode cX9_readsWord 99 = .ok (.return_, 1) := by decide +kernel
theorem dX9_readsNumber_0 : decode cX9_readsNumber 0 = .ok (.aload_n 0, 1) := by decide +kernel
theorem dX9_readsNumber_1 : decode cX9_readsNumber 1 = .ok (.bipush 32, 2) := by decide +kernel
theorem dX9_readsNumber_3 : decode cX9_readsNumber 3 = .ok (.invokevirtual 125, 3) := by decide +kernel
theorem dX9_readsNumber_6 : decode cX9_readsNumber 6 = .ok (.ifCond .ne 5, 3) := by decide +kernel
theorem dX9_readsNumber_9 : decode cX9_readsNumber 9 = .ok (.iconst 0, 1) := by decide +kernel
theorem dX9_readsNumber_10 : decode cX9_readsNumber 10 = .ok (.ireturn, 1) := by decide +kernel
theorem dX9_readsNumber_11 : decode cX9_readsNumber 11 = .ok (.aload_n 0, 1) := by decide +kernel
theorem dX9_readsNumber_12 : decode cX9_readsNumber 12 = .ok (.aload_n 0, 1) := by decide +kernel
theorem dX9_readsNumber_13 : decode cX9_readsNumber 13 = .ok (.getfield 95, 3) := by decide +kernel
theorem dX9_readsNumber_16 : decode cX9_readsNumber 16 = .ok (.putfield 129, 3) := by decide +kernel
theorem dX9_readsNumber_19 : decode cX9_readsNumber 19 = .ok (.aload_n 0, 1) := by decide +kernel
theorem dX9_readsNumber_20 : decode cX9_readsNumber 20 = .ok (.invokevirtual 104, 3) := by decide +kernel
theorem dX9_readsNumber_23 : decode cX9_readsNumber 23 = .ok (.invokestatic 132, 3) := by decide +kernel
theorem dX9_readsNumber_26 : decode cX9_readsNumber 26 = .ok (.ifCond .ne 13, 3) := by decide +kernel
theorem dX9_readsNumber_29 : decode cX9_readsNumber 29 = .ok (.aload_n 0, 1) := by decide +kernel
theorem dX9_readsNumber_30 : decode cX9_readsNumber 30 = .ok (.iconst 1, 1) := by decide +kernel
theorem dX9_readsNumber_31 : decode cX9_readsNumber 31 = .ok (.aload_n 0, 1) := by decide +kernel
theorem dX9_readsNumber_32 : decode cX9_readsNumber 32 = .ok (.getfield 95, 3) := by decide +kernel
theorem dX9_readsNumber_35 : decode cX9_readsNumber 35 = .ok (.invokevirtual 108, 3) := by decide +kernel
theorem dX9_readsNumber_38 : decode cX9_readsNumber 38 = .ok (.ireturn, 1) := by decide +kernel
theorem dX9_readsNumber_39 : decode cX9_readsNumber 39 = .ok (.aload_n 0, 1) := by decide +kernel
theorem dX9_readsNumber_40 : decode cX9_readsNumber 40 = .ok (.iconst 0, 1) := by decide +kernel
theorem dX9_readsNumber_41 : decode cX9_readsNumber 41 = .ok (.putfield 135, 3) := by decide +kernel
theorem dX9_readsNumber_44 : decode cX9_readsNumber 44 = .ok (.aload_n 0, 1) := by decide +kernel
theorem dX9_readsNumber_45 : decode cX9_readsNumber 45 = .ok (.invokevirtual 104, 3) := by decide +kernel
theorem dX9_readsNumber_48 : decode cX9_readsNumber 48 = .ok (.invokestatic 132, 3) := by decide +kernel
theorem dX9_readsNumber_51 : decode cX9_readsNumber 51 = .ok (.ifCond .eq 58, 3) := by decide +kernel
theorem dX9_readsNumber_54 : decode cX9_readsNumber 54 = .ok (.aload_n 0, 1) := by decide +kernel
theorem dX9_readsNumber_55 : decode cX9_readsNumber 55 = .ok (.getfield 95, 3) := by decide +kernel
theorem dX9_readsNumber_58 : decode cX9_readsNumber 58 = .ok (.aload_n 0, 1) := by decide +kernel
theorem dX9_readsNumber_59 : decode cX9_readsNumber 59 = .ok (.getfield 129, 3) := by decide +kernel
theorem dX9_readsNumber_62 : decode cX9_readsNumber 62 = .ok (.iconst 5, 1) := by decide +kernel
theorem dX9_readsNumber_63 : decode cX9_readsNumber 63 = .ok (.iadd, 1) := by decide +kernel
theorem dX9_readsNumber_64 : decode cX9_readsNumber 64 = .ok (.if_icmp .ne 13, 3) := by decide +kernel
theorem dX9_readsNumber_67 : decode cX9_readsNumber 67 = .ok (.aload_n 0, 1) := by decide +kernel
theorem dX9_readsNumber_68 : decode cX9_readsNumber 68 = .ok (.iconst 2, 1) := by decide +kernel
theorem dX9_readsNumber_69 : decode cX9_readsNumber 69 = .ok (.aload_n 0, 1) := by decide +kernel
theorem dX9_readsNumber_70 : decode cX9_readsNumber 70 = .ok (.getfield 95, 3) := by decide +kernel
theorem dX9_readsNumber_73 : decode cX9_readsNumber 73 = .ok (.invokevirtual 108, 3) := by decide +kernel
theorem dX9_readsNumber_76 : decode cX9_readsNumber 76 = .ok (.ireturn, 1) := by decide +kernel
theorem dX9_readsNumber_77 : decode cX9_readsNumber 77 = .ok (.aload_n 0, 1) := by decide +kernel
theorem dX9_readsNumber_78 : decode cX9_readsNumber 78 = .ok (.bipush 10, 2) := by decide +kernel
theorem dX9_readsNumber_80 : decode cX9_readsNumber 80 = .ok (.aload_n 0, 1) := by decide +kernel
theorem dX9_readsNumber_81 : decode cX9_readsNumber 81 = .ok (.getfield 135, 3) := by decide +kernel
theorem dX9_readsNumber_84 : decode cX9_readsNumber 84 = .ok (.imul, 1) := by decide +kernel
theorem dX9_readsNumber_85 : decode cX9_readsNumber 85 = .ok (.aload_n 0, 1) := by decide +kernel
theorem dX9_readsNumber_86 : decode cX9_readsNumber 86 = .ok (.invokevirtual 104, 3) := by decide +kernel
theorem dX9_readsNumber_89 : decode cX9_readsNumber 89 = .ok (.iadd, 1) := by decide +kernel
theorem dX9_readsNumber_90 : decode cX9_readsNumber 90 = .ok (.bipush 48, 2) := by decide +kernel
theorem dX9_readsNumber_92 : decode cX9_readsNumber 92 = .ok (.isub, 1) := by decide +kernel
theorem dX9_readsNumber_93 : decode cX9_readsNumber 93 = .ok (.putfield 135, 3) := by decide +kernel
theorem dX9_readsNumber_96 : decode cX9_readsNumber 96 = .ok (.aload_n 0, 1) := by decide +kernel
theorem dX9_readsNumber_97 : decode cX9_readsNumber 97 = .ok (.aload_n 0, 1) := by decide +kernel
theorem dX9_readsNumber_98 : decode cX9_readsNumber 98 = .ok (.getfield 95, 3) := by decide +kernel
theorem dX9_readsNumber_101 : decode cX9_readsNumber 101 = .ok (.iconst 1, 1) := by decide +kernel
theorem dX9_readsNumber_102 : decode cX9_readsNumber 102 = .ok (.iadd, 1) := by decide +kernel
theorem dX9_readsNumber_103 : decode cX9_readsNumber 103 = .ok (.putfield 95, 3) := by decide +kernel
theorem dX9_readsNumber_106 : decode cX9_readsNumber 106 = .ok (.goto (-62), 3) := by decide +kernel
theorem dX9_readsNumber_109 : decode cX9_readsNumber 109 = .ok (.aload_n 0, 1) := by decide +kernel
theorem dX9_readsNumber_110 : decode cX9_readsNumber 110 = .ok (.getfield 135, 3) := by decide +kernel
theorem dX9_readsNumber_113 : decode cX9_readsNumber 113 = .ok (.iload_n 1, 1) := by decide +kernel
theorem dX9_readsNumber_114 : decode cX9_readsNumber 114 = .ok (.iload_n 2, 1) := by decide +kernel
theorem dX9_readsNumber_115 : decode cX9_readsNumber 115 = .ok (.invokestatic 83, 3) := by decide +kernel
theorem dX9_readsNumber_118 : decode cX9_readsNumber 118 = .ok (.ifCond .ne 15, 3) := by decide +kernel
theorem dX9_readsNumber_121 : decode cX9_readsNumber 121 = .ok (.aload_n 0, 1) := by decide +kernel
theorem dX9_readsNumber_122 : decode cX9_readsNumber 122 = .ok (.iconst 3, 1) := by decide +kernel
theorem dX9_readsNumber_123 : decode cX9_readsNumber 123 = .ok (.aload_n 0, 1) := by decide +kernel
theorem dX9_readsNumber_124 : decode cX9_readsNumber 124 = .ok (.getfield 129, 3) := by decide +kernel
theorem dX9_readsNumber_127 : decode cX9_readsNumber 127 = .ok (.invokevirtual 108, 3) := by decide +kernel
theorem dX9_readsNumber_130 : decode cX9_readsNumber 130 = .ok (.ifCond .eq 7, 3) := by decide +kernel
theorem dX9_readsNumber_133 : decode cX9_readsNumber 133 = .ok (.iconst 1, 1) := by decide +kernel
theorem dX9_readsNumber_134 : decode cX9_readsNumber 134 = .ok (.goto 4, 3) := by decide +kernel
theorem dX9_readsNumber_137 : decode cX9_readsNumber 137 = .ok (.iconst 0, 1) := by decide +kernel
theorem dX9_readsNumber_138 : decode cX9_readsNumber 138 = .ok (.ireturn, 1) := by decide +kernel
theorem dX9_keepsNumber_0 : decode cX9_keepsNumber 0 = .ok (.aload_n 0, 1) := by decide +kernel
theorem dX9_keepsNumber_1 : decode cX9_keepsNumber 1 = .ok (.getfield 13, 3) := by decide +kernel
theorem dX9_keepsNumber_4 : decode cX9_keepsNumber 4 = .ok (.iload_n 1, 1) := by decide +kernel
theorem dX9_keepsNumber_5 : decode cX9_keepsNumber 5 = .ok (.aload_n 0, 1) := by decide +kernel
theorem dX9_keepsNumber_6 : decode cX9_keepsNumber 6 = .ok (.getfield 135, 3) := by decide +kernel
theorem dX9_keepsNumber_9 : decode cX9_keepsNumber 9 = .ok (.iastore, 1) := by decide +kernel
theorem dX9_keepsNumber_10 : decode cX9_keepsNumber 10 = .ok (.iconst 1, 1) := by decide +kernel
theorem dX9_keepsNumber_11 : decode cX9_keepsNumber 11 = .ok (.ireturn, 1) := by decide +kernel
theorem dX9_beginsText_0 : decode cX9_beginsText 0 = .ok (.iload_n 1, 1) := by decide +kernel
theorem dX9_beginsText_1 : decode cX9_beginsText 1 = .ok (.iconst 1, 1) := by decide +kernel
theorem dX9_beginsText_2 : decode cX9_beginsText 2 = .ok (.sipush 200, 3) := by decide +kernel
theorem dX9_beginsText_5 : decode cX9_beginsText 5 = .ok (.invokestatic 83, 3) := by decide +kernel
theorem dX9_beginsText_8 : decode cX9_beginsText 8 = .ok (.ifCond .eq 11, 3) := by decide +kernel
theorem dX9_beginsText_11 : decode cX9_beginsText 11 = .ok (.iload_n 1, 1) := by decide +kernel
theorem dX9_beginsText_12 : decode cX9_beginsText 12 = .ok (.aload_n 0, 1) := by decide +kernel
theorem dX9_beginsText_13 : decode cX9_beginsText 13 = .ok (.getfield 87, 3) := by decide +kernel
theorem dX9_beginsText_16 : decode cX9_beginsText 16 = .ok (.if_icmp .le 5, 3) := by decide +kernel
theorem dX9_beginsText_19 : decode cX9_beginsText 19 = .ok (.iconst 0, 1) := by decide +kernel
theorem dX9_beginsText_20 : decode cX9_beginsText 20 = .ok (.ireturn, 1) := by decide +kernel
theorem dX9_beginsText_21 : decode cX9_beginsText 21 = .ok (.aload_n 0, 1) := by decide +kernel
theorem dX9_beginsText_22 : decode cX9_beginsText 22 = .ok (.iconst 0, 1) := by decide +kernel
theorem dX9_beginsText_23 : decode cX9_beginsText 23 = .ok (.putfield 95, 3) := by decide +kernel
theorem dX9_beginsText_26 : decode cX9_beginsText 26 = .ok (.aload_n 0, 1) := by decide +kernel
theorem dX9_beginsText_27 : decode cX9_beginsText 27 = .ok (.iload_n 1, 1) := by decide +kernel
theorem dX9_beginsText_28 : decode cX9_beginsText 28 = .ok (.putfield 98, 3) := by decide +kernel
theorem dX9_beginsText_31 : decode cX9_beginsText 31 = .ok (.aload_n 0, 1) := by decide +kernel
theorem dX9_beginsText_32 : decode cX9_beginsText 32 = .ok (.iconst 0, 1) := by decide +kernel
theorem dX9_beginsText_33 : decode cX9_beginsText 33 = .ok (.putfield 87, 3) := by decide +kernel
theorem dX9_beginsText_36 : decode cX9_beginsText 36 = .ok (.aload_n 0, 1) := by decide +kernel
theorem dX9_beginsText_37 : decode cX9_beginsText 37 = .ok (.iconst 0, 1) := by decide +kernel
theorem dX9_beginsText_38 : decode cX9_beginsText 38 = .ok (.putfield 138, 3) := by decide +kernel
theorem dX9_beginsText_41 : decode cX9_beginsText 41 = .ok (.iconst 1, 1) := by decide +kernel
theorem dX9_beginsText_42 : decode cX9_beginsText 42 = .ok (.ireturn, 1) := by decide +kernel
theorem dX9_begins_0 : decode cX9_begins 0 = .ok (.iconst 0, 1) := by decide +kernel
theorem dX9_begins_1 : decode cX9_begins 1 = .ok (.istore_n 1, 1) := by decide +kernel
theorem dX9_begins_2 : decode cX9_begins 2 = .ok (.iload_n 1, 1) := by decide +kernel
theorem dX9_begins_3 : decode cX9_begins 3 = .ok (.aload_n 0, 1) := by decide +kernel
theorem dX9_begins_4 : decode cX9_begins 4 = .ok (.getfield 13, 3) := by decide +kernel
theorem dX9_begins_7 : decode cX9_begins 7 = .ok (.arraylength, 1) := by decide +kernel
theorem dX9_begins_8 : decode cX9_begins 8 = .ok (.if_icmp .ge 16, 3) := by decide +kernel
theorem dX9_begins_11 : decode cX9_begins 11 = .ok (.aload_n 0, 1) := by decide +kernel
theorem dX9_begins_12 : decode cX9_begins 12 = .ok (.getfield 13, 3) := by decide +kernel
theorem dX9_begins_15 : decode cX9_begins 15 = .ok (.iload_n 1, 1) := by decide +kernel
theorem dX9_begins_16 : decode cX9_begins 16 = .ok (.iconst 0, 1) := by decide +kernel
theorem dX9_begins_17 : decode cX9_begins 17 = .ok (.iastore, 1) := by decide +kernel
theorem dX9_begins_18 : decode cX9_begins 18 = .ok (.iinc 1 1, 3) := by decide +kernel
theorem dX9_begins_21 : decode cX9_begins 21 = .ok (.goto (-19), 3) := by decide +kernel
theorem dX9_begins_24 : decode cX9_begins 24 = .ok (.aload_n 0, 1) := by decide +kernel
theorem dX9_begins_25 : decode cX9_begins 25 = .ok (.getfield 13, 3) := by decide +kernel
theorem dX9_begins_28 : decode cX9_begins 28 = .ok (.iconst 0, 1) := by decide +kernel
theorem dX9_begins_29 : decode cX9_begins 29 = .ok (.iconst 2, 1) := by decide +kernel
theorem dX9_begins_30 : decode cX9_begins 30 = .ok (.iastore, 1) := by decide +kernel
theorem dX9_begins_31 : decode cX9_begins 31 = .ok (.aload_n 0, 1) := by decide +kernel
theorem dX9_begins_32 : decode cX9_begins 32 = .ok (.getfield 13, 3) := by decide +kernel
theorem dX9_begins_35 : decode cX9_begins 35 = .ok (.iconst 1, 1) := by decide +kernel
theorem dX9_begins_36 : decode cX9_begins 36 = .ok (.bipush 40, 2) := by decide +kernel
theorem dX9_begins_38 : decode cX9_begins 38 = .ok (.iastore, 1) := by decide +kernel
theorem dX9_begins_39 : decode cX9_begins 39 = .ok (.aload_n 0, 1) := by decide +kernel
theorem dX9_begins_40 : decode cX9_begins 40 = .ok (.getfield 13, 3) := by decide +kernel
theorem dX9_begins_43 : decode cX9_begins 43 = .ok (.iconst 2, 1) := by decide +kernel
theorem dX9_begins_44 : decode cX9_begins 44 = .ok (.iconst 1, 1) := by decide +kernel
theorem dX9_begins_45 : decode cX9_begins 45 = .ok (.iastore, 1) := by decide +kernel
theorem dX9_begins_46 : decode cX9_begins 46 = .ok (.aload_n 0, 1) := by decide +kernel
theorem dX9_begins_47 : decode cX9_begins 47 = .ok (.getfield 13, 3) := by decide +kernel
theorem dX9_begins_50 : decode cX9_begins 50 = .ok (.bipush 8, 2) := by decide +kernel
theorem dX9_begins_52 : decode cX9_begins 52 = .ok (.sipush 200, 3) := by decide +kernel
theorem dX9_begins_55 : decode cX9_begins 55 = .ok (.iastore, 1) := by decide +kernel
theorem dX9_begins_56 : decode cX9_begins 56 = .ok (.aload_n 0, 1) := by decide +kernel
theorem dX9_begins_57 : decode cX9_begins 57 = .ok (.getfield 13, 3) := by decide +kernel
theorem dX9_begins_60 : decode cX9_begins 60 = .ok (.bipush 9, 2) := by decide +kernel
theorem dX9_begins_62 : decode cX9_begins 62 = .ok (.bipush 120, 2) := by decide +kernel
theorem dX9_begins_64 : decode cX9_begins 64 = .ok (.iastore, 1) := by decide +kernel
theorem dX9_begins_65 : decode cX9_begins 65 = .ok (.aload_n 0, 1) := by decide +kernel
theorem dX9_begins_66 : decode cX9_begins 66 = .ok (.getfield 13, 3) := by decide +kernel
theorem dX9_begins_69 : decode cX9_begins 69 = .ok (.bipush 10, 2) := by decide +kernel
theorem dX9_begins_71 : decode cX9_begins 71 = .ok (.bipush 80, 2) := by decide +kernel
theorem dX9_begins_73 : decode cX9_begins 73 = .ok (.iastore, 1) := by decide +kernel
theorem dX9_begins_74 : decode cX9_begins 74 = .ok (.aload_n 0, 1) := by decide +kernel
theorem dX9_begins_75 : decode cX9_begins 75 = .ok (.getfield 13, 3) := by decide +kernel
theorem dX9_begins_78 : decode cX9_begins 78 = .ok (.bipush 11, 2) := by decide +kernel
theorem dX9_begins_80 : decode cX9_begins 80 = .ok (.bipush 40, 2) := by decide +kernel
theorem dX9_begins_82 : decode cX9_begins 82 = .ok (.iastore, 1) := by decide +kernel
theorem dX9_begins_83 : decode cX9_begins 83 = .ok (.return_, 1) := by decide +kernel
theorem dX9_takesDraft_0 : decode cX9_takesDraft 0 = .ok (.iconst 0, 1) := by decide +kernel
theorem dX9_takesDraft_1 : decode cX9_takesDraft 1 = .ok (.istore_n 1, 1) := by decide +kernel
theorem dX9_takesDraft_2 : decode cX9_takesDraft 2 = .ok (.iload_n 1, 1) := by decide +kernel
theorem dX9_takesDraft_3 : decode cX9_takesDraft 3 = .ok (.bipush 64, 2) := by decide +kernel
theorem dX9_takesDraft_5 : decode cX9_takesDraft 5 = .ok (.if_icmp .ge 27, 3) := by decide +kernel
theorem dX9_takesDraft_8 : decode cX9_takesDraft 8 = .ok (.iload_n 1, 1) := by decide +kernel
theorem dX9_takesDraft_9 : decode cX9_takesDraft 9 = .ok (.bipush 6, 2) := by decide +kernel
theorem dX9_takesDraft_11 : decode cX9_takesDraft 11 = .ok (.if_icmp .eq 15, 3) := by decide +kernel
theorem dX9_takesDraft_14 : decode cX9_takesDraft 14 = .ok (.aload_n 0, 1) := by decide +kernel
theorem dX9_takesDraft_15 : decode cX9_takesDraft 15 = .ok (.getfield 7, 3) := by decide +kernel
theorem dX9_takesDraft_18 : decode cX9_takesDraft 18 = .ok (.iload_n 1, 1) := by decide +kernel
theorem dX9_takesDraft_19 : decode cX9_takesDraft 19 = .ok (.aload_n 0, 1) := by decide +kernel
theorem dX9_takesDraft_20 : decode cX9_takesDraft 20 = .ok (.getfield 13, 3) := by decide +kernel
theorem dX9_takesDraft_23 : decode cX9_takesDraft 23 = .ok (.iload_n 1, 1) := by decide +kernel
theorem dX9_takesDraft_24 : decode cX9_takesDraft 24 = .ok (.iaload, 1) := by decide +kernel
theorem dX9_takesDraft_25 : decode cX9_takesDraft 25 = .ok (.iastore, 1) := by decide +kernel
theorem dX9_takesDraft_26 : decode cX9_takesDraft 26 = .ok (.iinc 1 1, 3) := by decide +kernel
theorem dX9_takesDraft_29 : decode cX9_takesDraft 29 = .ok (.goto (-27), 3) := by decide +kernel
theorem dX9_takesDraft_32 : decode cX9_takesDraft 32 = .ok (.aload_n 0, 1) := by decide +kernel
theorem dX9_takesDraft_33 : decode cX9_takesDraft 33 = .ok (.getfield 7, 3) := by decide +kernel
theorem dX9_takesDraft_36 : decode cX9_takesDraft 36 = .ok (.bipush 12, 2) := by decide +kernel
theorem dX9_takesDraft_38 : decode cX9_takesDraft 38 = .ok (.iconst 1, 1) := by decide +kernel
theorem dX9_takesDraft_39 : decode cX9_takesDraft 39 = .ok (.aload_n 0, 1) := by decide +kernel
theorem dX9_takesDraft_40 : decode cX9_takesDraft 40 = .ok (.getfield 13, 3) := by decide +kernel
theorem dX9_takesDraft_43 : decode cX9_takesDraft 43 = .ok (.iconst 3, 1) := by decide +kernel
theorem dX9_takesDraft_44 : decode cX9_takesDraft 44 = .ok (.iaload, 1) := by decide +kernel
theorem dX9_takesDraft_45 : decode cX9_takesDraft 45 = .ok (.ishl, 1) := by decide +kernel
theorem dX9_takesDraft_46 : decode cX9_takesDraft 46 = .ok (.iconst 1, 1) := by decide +kernel
theorem dX9_takesDraft_47 : decode cX9_takesDraft 47 = .ok (.isub, 1) := by decide +kernel
theorem dX9_takesDraft_48 : decode cX9_takesDraft 48 = .ok (.iastore, 1) := by decide +kernel
theorem dX9_takesDraft_49 : decode cX9_takesDraft 49 = .ok (.return_, 1) := by decide +kernel
theorem dX9_isLinkedInDraft_0 : decode cX9_isLinkedInDraft 0 = .ok (.iconst 0, 1) := by decide +kernel
theorem dX9_isLinkedInDraft_1 : decode cX9_isLinkedInDraft 1 = .ok (.istore_n 3, 1) := by decide +kernel
theorem dX9_isLinkedInDraft_2 : decode cX9_isLinkedInDraft 2 = .ok (.iload_n 3, 1) := by decide +kernel
theorem dX9_isLinkedInDraft_3 : decode cX9_isLinkedInDraft 3 = .ok (.aload_n 0, 1) := by decide +kernel
theorem dX9_isLinkedInDraft_4 : decode cX9_isLinkedInDraft 4 = .ok (.getfield 13, 3) := by decide +kernel
theorem dX9_isLinkedInDraft_7 : decode cX9_isLinkedInDraft 7 = .ok (.iconst 3, 1) := by decide +kernel
theorem dX9_isLinkedInDraft_8 : decode cX9_isLinkedInDraft 8 = .ok (.iaload, 1) := by decide +kernel
theorem dX9_isLinkedInDraft_9 : decode cX9_isLinkedInDraft 9 = .ok (.if_icmp .ge 63, 3) := by decide +kernel
theorem dX9_isLinkedInDraft_12 : decode cX9_isLinkedInDraft 12 = .ok (.aload_n 0, 1) := by decide +kernel
theorem dX9_isLinkedInDraft_13 : decode cX9_isLinkedInDraft 13 = .ok (.getfield 13, 3) := by decide +kernel
theorem dX9_isLinkedInDraft_16 : decode cX9_isLinkedInDraft 16 = .ok (.bipush 16, 2) := by decide +kernel
theorem dX9_isLinkedInDraft_18 : decode cX9_isLinkedInDraft 18 = .ok (.iload_n 3, 1) := by decide +kernel
theorem dX9_isLinkedInDraft_19 : decode cX9_isLinkedInDraft 19 = .ok (.iadd, 1) := by decide +kernel
theorem dX9_isLinkedInDraft_20 : decode cX9_isLinkedInDraft 20 = .ok (.iaload, 1) := by decide +kernel
theorem dX9_isLinkedInDraft_21 : decode cX9_isLinkedInDraft 21 = .ok (.iload_n 1, 1) := by decide +kernel
theorem dX9_isLinkedInDraft_22 : decode cX9_isLinkedInDraft 22 = .ok (.if_icmp .ne 16, 3) := by decide +kernel
theorem dX9_isLinkedInDraft_25 : decode cX9_isLinkedInDraft 25 = .ok (.aload_n 0, 1) := by decide +kernel
theorem dX9_isLinkedInDraft_26 : decode cX9_isLinkedInDraft 26 = .ok (.getfield 13, 3) := by decide +kernel
theorem dX9_isLinkedInDraft_29 : decode cX9_isLinkedInDraft 29 = .ok (.bipush 30, 2) := by decide +kernel
theorem dX9_isLinkedInDraft_31 : decode cX9_isLinkedInDraft 31 = .ok (.iload_n 3, 1) := by decide +kernel
theorem dX9_isLinkedInDraft_32 : decode cX9_isLinkedInDraft 32 = .ok (.iadd, 1) := by decide +kernel
theorem dX9_isLinkedInDraft_33 : decode cX9_isLinkedInDraft 33 = .ok (.iaload, 1) := by decide +kernel
theorem dX9_isLinkedInDraft_34 : decode cX9_isLinkedInDraft 34 = .ok (.iload_n 2, 1) := by decide +kernel
theorem dX9_isLinkedInDraft_35 : decode cX9_isLinkedInDraft 35 = .ok (.if_icmp .eq 29, 3) := by decide +kernel
theorem dX9_isLinkedInDraft_38 : decode cX9_isLinkedInDraft 38 = .ok (.aload_n 0, 1) := by decide +kernel
theorem dX9_isLinkedInDraft_39 : decode cX9_isLinkedInDraft 39 = .ok (.getfield 13, 3) := by decide +kernel
theorem dX9_isLinkedInDraft_42 : decode cX9_isLinkedInDraft 42 = .ok (.bipush 16, 2) := by decide +kernel
theorem dX9_isLinkedInDraft_44 : decode cX9_isLinkedInDraft 44 = .ok (.iload_n 3, 1) := by decide +kernel
theorem dX9_isLinkedInDraft_45 : decode cX9_isLinkedInDraft 45 = .ok (.iadd, 1) := by decide +kernel
theorem dX9_isLinkedInDraft_46 : decode cX9_isLinkedInDraft 46 = .ok (.iaload, 1) := by decide +kernel
theorem dX9_isLinkedInDraft_47 : decode cX9_isLinkedInDraft 47 = .ok (.iload_n 2, 1) := by decide +kernel
theorem dX9_isLinkedInDraft_48 : decode cX9_isLinkedInDraft 48 = .ok (.if_icmp .ne 18, 3) := by decide +kernel
theorem dX9_isLinkedInDraft_51 : decode cX9_isLinkedInDraft 51 = .ok (.aload_n 0, 1) := by decide +kernel
theorem dX9_isLinkedInDraft_52 : decode cX9_isLinkedInDraft 52 = .ok (.getfield 13, 3) := by decide +kernel
theorem dX9_isLinkedInDraft_55 : decode cX9_isLinkedInDraft 55 = .ok (.bipush 30, 2) := by decide +kernel
theorem dX9_isLinkedInDraft_57 : decode cX9_isLinkedInDraft 57 = .ok (.iload_n 3, 1) := by decide +kernel
theorem dX9_isLinkedInDraft_58 : decode cX9_isLinkedInDraft 58 = .ok (.iadd, 1) := by decide +kernel
theorem dX9_isLinkedInDraft_59 : decode cX9_isLinkedInDraft 59 = .ok (.iaload, 1) := by decide +kernel
theorem dX9_isLinkedInDraft_60 : decode cX9_isLinkedInDraft 60 = .ok (.iload_n 1, 1) := by decide +kernel
theorem dX9_isLinkedInDraft_61 : decode cX9_isLinkedInDraft 61 = .ok (.if_icmp .ne 5, 3) := by decide +kernel
theorem dX9_isLinkedInDraft_64 : decode cX9_isLinkedInDraft 64 = .ok (.iconst 1, 1) := by decide +kernel
theorem dX9_isLinkedInDraft_65 : decode cX9_isLinkedInDraft 65 = .ok (.ireturn, 1) := by decide +kernel
theorem dX9_isLinkedInDraft_66 : decode cX9_isLinkedInDraft 66 = .ok (.iinc 3 1, 3) := by decide +kernel
theorem dX9_isLinkedInDraft_69 : decode cX9_isLinkedInDraft 69 = .ok (.goto (-67), 3) := by decide +kernel
theorem dX9_isLinkedInDraft_72 : decode cX9_isLinkedInDraft 72 = .ok (.iconst 0, 1) := by decide +kernel
theorem dX9_isLinkedInDraft_73 : decode cX9_isLinkedInDraft 73 = .ok (.ireturn, 1) := by decide +kernel
theorem dX9_readsLink_0 : decode cX9_readsLink 0 = .ok (.aload_n 0, 1) := by decide +kernel
theorem dX9_readsLink_1 : decode cX9_readsLink 1 = .ok (.getfield 13, 3) := by decide +kernel
theorem dX9_readsLink_4 : decode cX9_readsLink 4 = .ok (.iconst 3, 1) := by decide +kernel
theorem dX9_readsLink_5 : decode cX9_readsLink 5 = .ok (.iaload, 1) := by decide +kernel
theorem dX9_readsLink_6 : decode cX9_readsLink 6 = .ok (.istore_n 1, 1) := by decide +kernel
theorem dX9_readsLink_7 : decode cX9_readsLink 7 = .ok (.iload_n 1, 1) := by decide +kernel
theorem dX9_readsLink_8 : decode cX9_readsLink 8 = .ok (.bipush 14, 2) := by decide +kernel
theorem dX9_readsLink_10 : decode cX9_readsLink 10 = .ok (.if_icmp .ne 14, 3) := by decide +kernel
theorem dX9_readsLink_13 : decode cX9_readsLink 13 = .ok (.aload_n 0, 1) := by decide +kernel
theorem dX9_readsLink_14 : decode cX9_readsLink 14 = .ok (.bipush 6, 2) := by decide +kernel
theorem dX9_readsLink_16 : decode cX9_readsLink 16 = .ok (.aload_n 0, 1) := by decide +kernel
theorem dX9_readsLink_17 : decode cX9_readsLink 17 = .ok (.getfield 112, 3) := by decide +kernel
theorem dX9_readsLink_20 : decode cX9_readsLink 20 = .ok (.invokevirtual 108, 3) := by decide +kernel
theorem dX9_readsLink_23 : decode cX9_readsLink 23 = .ok (.ireturn, 1) := by decide +kernel
theorem dX9_readsLink_24 : decode cX9_readsLink 24 = .ok (.aload_n 0, 1) := by decide +kernel
theorem dX9_readsLink_25 : decode cX9_readsLink 25 = .ok (.iconst 0, 1) := by decide +kernel
theorem dX9_readsLink_26 : decode cX9_readsLink 26 = .ok (.aload_n 0, 1) := by decide +kernel
theorem dX9_readsLink_27 : decode cX9_readsLink 27 = .ok (.getfield 13, 3) := by decide +kernel
theorem dX9_readsLink_30 : decode cX9_readsLink 30 = .ok (.iconst 0, 1) := by decide +kernel
theorem dX9_readsLink_31 : decode cX9_readsLink 31 = .ok (.iaload, 1) := by decide +kernel
theorem dX9_readsLink_32 : decode cX9_readsLink 32 = .ok (.iconst 1, 1) := by decide +kernel
theorem dX9_readsLink_33 : decode cX9_readsLink 33 = .ok (.isub, 1) := by decide +kernel
theorem dX9_readsLink_34 : decode cX9_readsLink 34 = .ok (.invokevirtual 141, 3) := by decide +kernel
theorem dX9_readsLink_37 : decode cX9_readsLink 37 = .ok (.ifCond .ne 5, 3) := by decide +kernel
theorem dX9_readsLink_40 : decode cX9_readsLink 40 = .ok (.iconst 0, 1) := by decide +kernel
theorem dX9_readsLink_41 : decode cX9_readsLink 41 = .ok (.ireturn, 1) := by decide +kernel
theorem dX9_readsLink_42 : decode cX9_readsLink 42 = .ok (.aload_n 0, 1) := by decide +kernel
theorem dX9_readsLink_43 : decode cX9_readsLink 43 = .ok (.getfield 13, 3) := by decide +kernel
theorem dX9_readsLink_46 : decode cX9_readsLink 46 = .ok (.bipush 16, 2) := by decide +kernel
theorem dX9_readsLink_48 : decode cX9_readsLink 48 = .ok (.iload_n 1, 1) := by decide +kernel
theorem dX9_readsLink_49 : decode cX9_readsLink 49 = .ok (.iadd, 1) := by decide +kernel
theorem dX9_readsLink_50 : decode cX9_readsLink 50 = .ok (.aload_n 0, 1) := by decide +kernel
theorem dX9_readsLink_51 : decode cX9_readsLink 51 = .ok (.getfield 135, 3) := by decide +kernel
theorem dX9_readsLink_54 : decode cX9_readsLink 54 = .ok (.iastore, 1) := by decide +kernel
theorem dX9_readsLink_55 : decode cX9_readsLink 55 = .ok (.aload_n 0, 1) := by decide +kernel
theorem dX9_readsLink_56 : decode cX9_readsLink 56 = .ok (.iconst 0, 1) := by decide +kernel
theorem dX9_readsLink_57 : decode cX9_readsLink 57 = .ok (.aload_n 0, 1) := by decide +kernel
theorem dX9_readsLink_58 : decode cX9_readsLink 58 = .ok (.getfield 13, 3) := by decide +kernel
theorem dX9_readsLink_61 : decode cX9_readsLink 61 = .ok (.iconst 0, 1) := by decide +kernel
theorem dX9_readsLink_62 : decode cX9_readsLink 62 = .ok (.iaload, 1) := by decide +kernel
theorem dX9_readsLink_63 : decode cX9_readsLink 63 = .ok (.iconst 1, 1) := by decide +kernel
theorem dX9_readsLink_64 : decode cX9_readsLink 64 = .ok (.isub, 1) := by decide +kernel
theorem dX9_readsLink_65 : decode cX9_readsLink 65 = .ok (.invokevirtual 141, 3) := by decide +kernel
theorem dX9_readsLink_68 : decode cX9_readsLink 68 = .ok (.ifCond .ne 5, 3) := by decide +kernel
theorem dX9_readsLink_71 : decode cX9_readsLink 71 = .ok (.iconst 0, 1) := by decide +kernel
theorem dX9_readsLink_72 : decode cX9_readsLink 72 = .ok (.ireturn, 1) := by decide +kernel
theorem dX9_readsLink_73 : decode cX9_readsLink 73 = .ok (.aload_n 0, 1) := by decide +kernel
theorem dX9_readsLink_74 : decode cX9_readsLink 74 = .ok (.getfield 135, 3) := by decide +kernel
theorem dX9_readsLink_77 : decode cX9_readsLink 77 = .ok (.aload_n 0, 1) := by decide +kernel
theorem dX9_readsLink_78 : decode cX9_readsLink 78 = .ok (.getfield 13, 3) := by decide +kernel
theorem dX9_readsLink_81 : decode cX9_readsLink 81 = .ok (.bipush 16, 2) := by decide +kernel
theorem dX9_readsLink_83 : decode cX9_readsLink 83 = .ok (.iload_n 1, 1) := by decide +kernel
theorem dX9_readsLink_84 : decode cX9_readsLink 84 = .ok (.iadd, 1) := by decide +kernel
theorem dX9_readsLink_85 : decode cX9_readsLink 85 = .ok (.iaload, 1) := by decide +kernel
theorem dX9_readsLink_86 : decode cX9_readsLink 86 = .ok (.if_icmp .eq 23, 3) := by decide +kernel
theorem dX9_readsLink_89 : decode cX9_readsLink 89 = .ok (.aload_n 0, 1) := by decide +kernel
theorem dX9_readsLink_90 : decode cX9_readsLink 90 = .ok (.aload_n 0, 1) := by decide +kernel
theorem dX9_readsLink_91 : decode cX9_readsLink 91 = .ok (.getfield 13, 3) := by decide +kernel
theorem dX9_readsLink_94 : decode cX9_readsLink 94 = .ok (.bipush 16, 2) := by decide +kernel
theorem dX9_readsLink_96 : decode cX9_readsLink 96 = .ok (.iload_n 1, 1) := by decide +kernel
theorem dX9_readsLink_97 : decode cX9_readsLink 97 = .ok (.iadd, 1) := by decide +kernel
theorem dX9_readsLink_98 : decode cX9_readsLink 98 = .ok (.iaload, 1) := by decide +kernel
theorem dX9_readsLink_99 : decode cX9_readsLink 99 = .ok (.aload_n 0, 1) := by decide +kernel
theorem dX9_readsLink_100 : decode cX9_readsLink 100 = .ok (.getfield 135, 3) := by decide +kernel
theorem dX9_readsLink_103 : decode cX9_readsLink 103 = .ok (.invokevirtual 144, 3) := by decide +kernel
theorem dX9_readsLink_106 : decode cX9_readsLink 106 = .ok (.ifCond .eq 14, 3) := by decide +kernel
theorem dX9_readsLink_109 : decode cX9_readsLink 109 = .ok (.aload_n 0, 1) := by decide +kernel
theorem dX9_readsLink_110 : decode cX9_readsLink 110 = .ok (.bipush 6, 2) := by decide +kernel
theorem dX9_readsLink_112 : decode cX9_readsLink 112 = .ok (.aload_n 0, 1) := by decide +kernel
theorem dX9_readsLink_113 : decode cX9_readsLink 113 = .ok (.getfield 129, 3) := by decide +kernel
theorem dX9_readsLink_116 : decode cX9_readsLink 116 = .ok (.invokevirtual 108, 3) := by decide +kernel
theorem dX9_readsLink_119 : decode cX9_readsLink 119 = .ok (.ireturn, 1) := by decide +kernel
theorem dX9_readsLink_120 : decode cX9_readsLink 120 = .ok (.aload_n 0, 1) := by decide +kernel
theorem dX9_readsLink_121 : decode cX9_readsLink 121 = .ok (.getfield 13, 3) := by decide +kernel
theorem dX9_readsLink_124 : decode cX9_readsLink 124 = .ok (.bipush 30, 2) := by decide +kernel
theorem dX9_readsLink_126 : decode cX9_readsLink 126 = .ok (.iload_n 1, 1) := by decide +kernel
theorem dX9_readsLink_127 : decode cX9_readsLink 127 = .ok (.iadd, 1) := by decide +kernel
theorem dX9_readsLink_128 : decode cX9_readsLink 128 = .ok (.aload_n 0, 1) := by decide +kernel
theorem dX9_readsLink_129 : decode cX9_readsLink 129 = .ok (.getfield 135, 3) := by decide +kernel
theorem dX9_readsLink_132 : decode cX9_readsLink 132 = .ok (.iastore, 1) := by decide +kernel
theorem dX9_readsLink_133 : decode cX9_readsLink 133 = .ok (.aload_n 0, 1) := by decide +kernel
theorem dX9_readsLink_134 : decode cX9_readsLink 134 = .ok (.iconst 1, 1) := by decide +kernel
theorem dX9_readsLink_135 : decode cX9_readsLink 135 = .ok (.bipush 99, 2) := by decide +kernel
theorem dX9_readsLink_137 : decode cX9_readsLink 137 = .ok (.invokevirtual 141, 3) := by decide +kernel
theorem dX9_readsLink_140 : decode cX9_readsLink 140 = .ok (.ifCond .ne 5, 3) := by decide +kernel
theorem dX9_readsLink_143 : decode cX9_readsLink 143 = .ok (.iconst 0, 1) := by decide +kernel
theorem dX9_readsLink_144 : decode cX9_readsLink 144 = .ok (.ireturn, 1) := by decide +kernel
theorem dX9_readsLink_145 : decode cX9_readsLink 145 = .ok (.aload_n 0, 1) := by decide +kernel
theorem dX9_readsLink_146 : decode cX9_readsLink 146 = .ok (.getfield 13, 3) := by decide +kernel
theorem dX9_readsLink_149 : decode cX9_readsLink 149 = .ok (.bipush 44, 2) := by decide +kernel
theorem dX9_readsLink_151 : decode cX9_readsLink 151 = .ok (.iload_n 1, 1) := by decide +kernel
theorem dX9_readsLink_152 : decode cX9_readsLink 152 = .ok (.iadd, 1) := by decide +kernel
theorem dX9_readsLink_153 : decode cX9_readsLink 153 = .ok (.aload_n 0, 1) := by decide +kernel
theorem dX9_readsLink_154 : decode cX9_readsLink 154 = .ok (.getfield 135, 3) := by decide +kernel
theorem dX9_readsLink_157 : decode cX9_readsLink 157 = .ok (.iastore, 1) := by decide +kernel
theorem dX9_readsLink_158 : decode cX9_readsLink 158 = .ok (.aload_n 0, 1) := by decide +kernel
theorem dX9_readsLink_159 : decode cX9_readsLink 159 = .ok (.getfield 13, 3) := by decide +kernel
theorem dX9_readsLink_162 : decode cX9_readsLink 162 = .ok (.iconst 3, 1) := by decide +kernel
theorem dX9_readsLink_163 : decode cX9_readsLink 163 = .ok (.iload_n 1, 1) := by decide +kernel
theorem dX9_readsLink_164 : decode cX9_readsLink 164 = .ok (.iconst 1, 1) := by decide +kernel
theorem dX9_readsLink_165 : decode cX9_readsLink 165 = .ok (.iadd, 1) := by decide +kernel
theorem dX9_readsLink_166 : decode cX9_readsLink 166 = .ok (.iastore, 1) := by decide +kernel
theorem dX9_readsLink_167 : decode cX9_readsLink 167 = .ok (.iconst 1, 1) := by decide +kernel
theorem dX9_readsLink_168 : decode cX9_readsLink 168 = .ok (.ireturn, 1) := by decide +kernel
theorem dX9_readsReach_0 : decode cX9_readsReach 0 = .ok (.sipush 999, 3) := by decide +kernel
theorem dX9_readsReach_3 : decode cX9_readsReach 3 = .ok (.istore_n 1, 1) := by decide +kernel
theorem dX9_readsReach_4 : decode cX9_readsReach 4 = .ok (.iconst 0, 1) := by decide +kernel
theorem dX9_readsReach_5 : decode cX9_readsReach 5 = .ok (.istore_n 2, 1) := by decide +kernel
theorem dX9_readsReach_6 : decode cX9_readsReach 6 = .ok (.iload_n 2, 1) := by decide +kernel
theorem dX9_readsReach_7 : decode cX9_readsReach 7 = .ok (.iconst 4, 1) := by decide +kernel
theorem dX9_readsReach_8 : decode cX9_readsReach 8 = .ok (.if_icmp .ge 38, 3) := by decide +kernel
theorem dX9_readsReach_11 : decode cX9_readsReach 11 = .ok (.aload_n 0, 1) := by decide +kernel
theorem dX9_readsReach_12 : decode cX9_readsReach 12 = .ok (.iconst 0, 1) := by decide +kernel
theorem dX9_readsReach_13 : decode cX9_readsReach 13 = .ok (.iload_n 1, 1) := by decide +kernel
theorem dX9_readsReach_14 : decode cX9_readsReach 14 = .ok (.invokevirtual 141, 3) := by decide +kernel
theorem dX9_readsReach_17 : decode cX9_readsReach 17 = .ok (.ifCond .ne 5, 3) := by decide +kernel
theorem dX9_readsReach_20 : decode cX9_readsReach 20 = .ok (.iconst 0, 1) := by decide +kernel
theorem dX9_readsReach_21 : decode cX9_readsReach 21 = .ok (.ireturn, 1) := by decide +kernel
theorem dX9_readsReach_22 : decode cX9_readsReach 22 = .ok (.aload_n 0, 1) := by decide +kernel
theorem dX9_readsReach_23 : decode cX9_readsReach 23 = .ok (.getfield 13, 3) := by decide +kernel
theorem dX9_readsReach_26 : decode cX9_readsReach 26 = .ok (.bipush 8, 2) := by decide +kernel
theorem dX9_readsReach_28 : decode cX9_readsReach 28 = .ok (.iload_n 2, 1) := by decide +kernel
theorem dX9_readsReach_29 : decode cX9_readsReach 29 = .ok (.iadd, 1) := by decide +kernel
theorem dX9_readsReach_30 : decode cX9_readsReach 30 = .ok (.aload_n 0, 1) := by decide +kernel
theorem dX9_readsReach_31 : decode cX9_readsReach 31 = .ok (.getfield 135, 3) := by decide +kernel
theorem dX9_readsReach_34 : decode cX9_readsReach 34 = .ok (.iastore, 1) := by decide +kernel
theorem dX9_readsReach_35 : decode cX9_readsReach 35 = .ok (.aload_n 0, 1) := by decide +kernel
theorem dX9_readsReach_36 : decode cX9_readsReach 36 = .ok (.getfield 135, 3) := by decide +kernel
theorem dX9_readsReach_39 : decode cX9_readsReach 39 = .ok (.istore_n 1, 1) := by decide +kernel
theorem dX9_readsReach_40 : decode cX9_readsReach 40 = .ok (.iinc 2 1, 3) := by decide +kernel
theorem dX9_readsReach_43 : decode cX9_readsReach 43 = .ok (.goto (-37), 3) := by decide +kernel
theorem dX9_readsReach_46 : decode cX9_readsReach 46 = .ok (.iconst 1, 1) := by decide +kernel
theorem dX9_readsReach_47 : decode cX9_readsReach 47 = .ok (.ireturn, 1) := by decide +kernel
theorem dX9_readsNodes_0 : decode cX9_readsNodes 0 = .ok (.aload_n 0, 1) := by decide +kernel
theorem dX9_readsNodes_1 : decode cX9_readsNodes 1 = .ok (.iconst 2, 1) := by decide +kernel
theorem dX9_readsNodes_2 : decode cX9_readsNodes 2 = .ok (.bipush 8, 2) := by decide +kernel
theorem dX9_readsNodes_4 : decode cX9_readsNodes 4 = .ok (.invokevirtual 141, 3) := by decide +kernel
theorem dX9_readsNodes_7 : decode cX9_readsNodes 7 = .ok (.ifCond .ne 5, 3) := by decide +kernel
theorem dX9_readsNodes_10 : decode cX9_readsNodes 10 = .ok (.iconst 0, 1) := by decide +kernel
theorem dX9_readsNodes_11 : decode cX9_readsNodes 11 = .ok (.ireturn, 1) := by decide +kernel
theorem dX9_readsNodes_12 : decode cX9_readsNodes 12 = .ok (.aload_n 0, 1) := by decide +kernel
theorem dX9_readsNodes_13 : decode cX9_readsNodes 13 = .ok (.getfield 13, 3) := by decide +kernel
theorem dX9_readsNodes_16 : decode cX9_readsNodes 16 = .ok (.iconst 3, 1) := by decide +kernel
theorem dX9_readsNodes_17 : decode cX9_readsNodes 17 = .ok (.iaload, 1) := by decide +kernel
theorem dX9_readsNodes_18 : decode cX9_readsNodes 18 = .ok (.ifCond .le 13, 3) := by decide +kernel
theorem dX9_readsNodes_21 : decode cX9_readsNodes 21 = .ok (.aload_n 0, 1) := by decide +kernel
theorem dX9_readsNodes_22 : decode cX9_readsNodes 22 = .ok (.iconst 3, 1) := by decide +kernel
theorem dX9_readsNodes_23 : decode cX9_readsNodes 23 = .ok (.aload_n 0, 1) := by decide +kernel
theorem dX9_readsNodes_24 : decode cX9_readsNodes 24 = .ok (.getfield 129, 3) := by decide +kernel
theorem dX9_readsNodes_27 : decode cX9_readsNodes 27 = .ok (.invokevirtual 108, 3) := by decide +kernel
theorem dX9_readsNodes_30 : decode cX9_readsNodes 30 = .ok (.ireturn, 1) := by decide +kernel
theorem dX9_readsNodes_31 : decode cX9_readsNodes 31 = .ok (.aload_n 0, 1) := by decide +kernel
theorem dX9_readsNodes_32 : decode cX9_readsNodes 32 = .ok (.getfield 13, 3) := by decide +kernel
theorem dX9_readsNodes_35 : decode cX9_readsNodes 35 = .ok (.iconst 0, 1) := by decide +kernel
theorem dX9_readsNodes_36 : decode cX9_readsNodes 36 = .ok (.aload_n 0, 1) := by decide +kernel
theorem dX9_readsNodes_37 : decode cX9_readsNodes 37 = .ok (.getfield 135, 3) := by decide +kernel
theorem dX9_readsNodes_40 : decode cX9_readsNodes 40 = .ok (.iastore, 1) := by decide +kernel
theorem dX9_readsNodes_41 : decode cX9_readsNodes 41 = .ok (.iconst 1, 1) := by decide +kernel
theorem dX9_readsNodes_42 : decode cX9_readsNodes 42 = .ok (.ireturn, 1) := by decide +kernel
theorem dX9_readsClause_0 : decode cX9_readsClause 0 = .ok (.aload_n 0, 1) := by decide +kernel
theorem dX9_readsClause_1 : decode cX9_readsClause 1 = .ok (.getfield 138, 3) := by decide +kernel
theorem dX9_readsClause_4 : decode cX9_readsClause 4 = .ok (.bipush 24, 2) := by decide +kernel
theorem dX9_readsClause_6 : decode cX9_readsClause 6 = .ok (.if_icmp .ne 13, 3) := by decide +kernel
theorem dX9_readsClause_9 : decode cX9_readsClause 9 = .ok (.aload_n 0, 1) := by decide +kernel
theorem dX9_readsClause_10 : decode cX9_readsClause 10 = .ok (.iconst 4, 1) := by decide +kernel
theorem dX9_readsClause_11 : decode cX9_readsClause 11 = .ok (.aload_n 0, 1) := by decide +kernel
theorem dX9_readsClause_12 : decode cX9_readsClause 12 = .ok (.getfield 95, 3) := by decide +kernel
theorem dX9_readsClause_15 : decode cX9_readsClause 15 = .ok (.invokevirtual 108, 3) := by decide +kernel
theorem dX9_readsClause_18 : decode cX9_readsClause 18 = .ok (.ireturn, 1) := by decide +kernel
theorem dX9_readsClause_19 : decode cX9_readsClause 19 = .ok (.aload_n 0, 1) := by decide +kernel
theorem dX9_readsClause_20 : decode cX9_readsClause 20 = .ok (.aload_n 0, 1) := by decide +kernel
theorem dX9_readsClause_21 : decode cX9_readsClause 21 = .ok (.getfield 138, 3) := by decide +kernel
theorem dX9_readsClause_24 : decode cX9_readsClause 24 = .ok (.iconst 1, 1) := by decide +kernel
theorem dX9_readsClause_25 : decode cX9_readsClause 25 = .ok (.iadd, 1) := by decide +kernel
theorem dX9_readsClause_26 : decode cX9_readsClause 26 = .ok (.putfield 138, 3) := by decide +kernel
theorem dX9_readsClause_29 : decode cX9_readsClause 29 = .ok (.aload_n 0, 1) := by decide +kernel
theorem dX9_readsClause_30 : decode cX9_readsClause 30 = .ok (.invokevirtual 147, 3) := by decide +kernel
theorem dX9_readsClause_33 : decode cX9_readsClause 33 = .ok (.aload_n 0, 1) := by decide +kernel
theorem dX9_readsClause_34 : decode cX9_readsClause 34 = .ok (.getfield 115, 3) := by decide +kernel
theorem dX9_readsClause_37 : decode cX9_readsClause 37 = .ok (.lstore_n 1, 1) := by decide +kernel
theorem dX9_readsClause_38 : decode cX9_readsClause 38 = .ok (.lload_n 1, 1) := by decide +kernel
theorem dX9_readsClause_39 : decode cX9_readsClause 39 = .ok (.ldc2_w 150, 3) := by decide +kernel
theorem dX9_readsClause_42 : decode cX9_readsClause 42 = .ok (.lcmp, 1) := by decide +kernel
theorem dX9_readsClause_43 : decode cX9_readsClause 43 = .ok (.ifCond .ne 8, 3) := by decide +kernel
theorem dX9_readsClause_46 : decode cX9_readsClause 46 = .ok (.aload_n 0, 1) := by decide +kernel
theorem dX9_readsClause_47 : decode cX9_readsClause 47 = .ok (.invokevirtual 152, 3) := by decide +kernel
theorem dX9_readsClause_50 : decode cX9_readsClause 50 = .ok (.ireturn, 1) := by decide +kernel
theorem dX9_readsClause_51 : decode cX9_readsClause 51 = .ok (.lload_n 1, 1) := by decide +kernel
theorem dX9_readsClause_52 : decode cX9_readsClause 52 = .ok (.ldc2_w 156, 3) := by decide +kernel
theorem dX9_readsClause_55 : decode cX9_readsClause 55 = .ok (.lcmp, 1) := by decide +kernel
theorem dX9_readsClause_56 : decode cX9_readsClause 56 = .ok (.ifCond .ne 8, 3) := by decide +kernel
theorem dX9_readsClause_59 : decode cX9_readsClause 59 = .ok (.aload_n 0, 1) := by decide +kernel
theorem dX9_readsClause_60 : decode cX9_readsClause 60 = .ok (.invokevirtual 158, 3) := by decide +kernel
theorem dX9_readsClause_63 : decode cX9_readsClause 63 = .ok (.ireturn, 1) := by decide +kernel
theorem dX9_readsClause_64 : decode cX9_readsClause 64 = .ok (.lload_n 1, 1) := by decide +kernel
theorem dX9_readsClause_65 : decode cX9_readsClause 65 = .ok (.ldc2_w 161, 3) := by decide +kernel
theorem dX9_readsClause_68 : decode cX9_readsClause 68 = .ok (.lcmp, 1) := by decide +kernel
theorem dX9_readsClause_69 : decode cX9_readsClause 69 = .ok (.ifCond .ne 8, 3) := by decide +kernel
theorem dX9_readsClause_72 : decode cX9_readsClause 72 = .ok (.aload_n 0, 1) := by decide +kernel
theorem dX9_readsClause_73 : decode cX9_readsClause 73 = .ok (.invokevirtual 163, 3) := by decide +kernel
theorem dX9_readsClause_76 : decode cX9_readsClause 76 = .ok (.ireturn, 1) := by decide +kernel
theorem dX9_readsClause_77 : decode cX9_readsClause 77 = .ok (.lload_n 1, 1) := by decide +kernel
theorem dX9_readsClause_78 : decode cX9_readsClause 78 = .ok (.ldc2_w 166, 3) := by decide +kernel
theorem dX9_readsClause_81 : decode cX9_readsClause 81 = .ok (.lcmp, 1) := by decide +kernel
theorem dX9_readsClause_82 : decode cX9_readsClause 82 = .ok (.ifCond .ne 28, 3) := by decide +kernel
theorem dX9_readsClause_85 : decode cX9_readsClause 85 = .ok (.aload_n 0, 1) := by decide +kernel
theorem dX9_readsClause_86 : decode cX9_readsClause 86 = .ok (.bipush 8, 2) := by decide +kernel
theorem dX9_readsClause_88 : decode cX9_readsClause 88 = .ok (.bipush 60, 2) := by decide +kernel
theorem dX9_readsClause_90 : decode cX9_readsClause 90 = .ok (.invokevirtual 141, 3) := by decide +kernel
theorem dX9_readsClause_93 : decode cX9_readsClause 93 = .ok (.ifCond .eq 15, 3) := by decide +kernel
theorem dX9_readsClause_96 : decode cX9_readsClause 96 = .ok (.aload_n 0, 1) := by decide +kernel
theorem dX9_readsClause_97 : decode cX9_readsClause 97 = .ok (.iconst 1, 1) := by decide +kernel
theorem dX9_readsClause_98 : decode cX9_readsClause 98 = .ok (.invokevirtual 168, 3) := by decide +kernel
theorem dX9_readsClause_101 : decode cX9_readsClause 101 = .ok (.ifCond .eq 7, 3) := by decide +kernel
theorem dX9_readsClause_104 : decode cX9_readsClause 104 = .ok (.iconst 1, 1) := by decide +kernel
theorem dX9_readsClause_105 : decode cX9_readsClause 105 = .ok (.goto 4, 3) := by decide +kernel
theorem dX9_readsClause_108 : decode cX9_readsClause 108 = .ok (.iconst 0, 1) := by decide +kernel
theorem dX9_readsClause_109 : decode cX9_readsClause 109 = .ok (.ireturn, 1) := by decide +kernel
theorem dX9_readsClause_110 : decode cX9_readsClause 110 = .ok (.lload_n 1, 1) := by decide +kernel
theorem dX9_readsClause_111 : decode cX9_readsClause 111 = .ok (.ldc2_w 171, 3) := by decide +kernel
theorem dX9_readsClause_114 : decode cX9_readsClause 114 = .ok (.lcmp, 1) := by decide +kernel
theorem dX9_readsClause_115 : decode cX9_readsClause 115 = .ok (.ifCond .ne 28, 3) := by decide +kernel
theorem dX9_readsClause_118 : decode cX9_readsClause 118 = .ok (.aload_n 0, 1) := by decide +kernel
theorem dX9_readsClause_119 : decode cX9_readsClause 119 = .ok (.iconst 0, 1) := by decide +kernel
theorem dX9_readsClause_120 : decode cX9_readsClause 120 = .ok (.iconst 4, 1) := by decide +kernel
theorem dX9_readsClause_121 : decode cX9_readsClause 121 = .ok (.invokevirtual 141, 3) := by decide +kernel
theorem dX9_readsClause_124 : decode cX9_readsClause 124 = .ok (.ifCond .eq 15, 3) := by decide +kernel
theorem dX9_readsClause_127 : decode cX9_readsClause 127 = .ok (.aload_n 0, 1) := by decide +kernel
theorem dX9_readsClause_128 : decode cX9_readsClause 128 = .ok (.iconst 2, 1) := by decide +kernel
theorem dX9_readsClause_129 : decode cX9_readsClause 129 = .ok (.invokevirtual 168, 3) := by decide +kernel
theorem dX9_readsClause_132 : decode cX9_readsClause 132 = .ok (.ifCond .eq 7, 3) := by decide +kernel
theorem dX9_readsClause_135 : decode cX9_readsClause 135 = .ok (.iconst 1, 1) := by decide +kernel
theorem dX9_readsClause_136 : decode cX9_readsClause 136 = .ok (.goto 16, 3) := by decide +kernel
theorem dX9_readsClause_139 : decode cX9_readsClause 139 = .ok (.iconst 0, 1) := by decide +kernel
theorem dX9_readsClause_140 : decode cX9_readsClause 140 = .ok (.goto 12, 3) := by decide +kernel
theorem dX9_readsClause_143 : decode cX9_readsClause 143 = .ok (.aload_n 0, 1) := by decide +kernel
theorem dX9_readsClause_144 : decode cX9_readsClause 144 = .ok (.iconst 1, 1) := by decide +kernel
theorem dX9_readsClause_145 : decode cX9_readsClause 145 = .ok (.aload_n 0, 1) := by decide +kernel
theorem dX9_readsClause_146 : decode cX9_readsClause 146 = .ok (.getfield 112, 3) := by decide +kernel
theorem dX9_readsClause_149 : decode cX9_readsClause 149 = .ok (.invokevirtual 108, 3) := by decide +kernel
theorem dX9_readsClause_152 : decode cX9_readsClause 152 = .ok (.ireturn, 1) := by decide +kernel
theorem dX9_grid_0 : decode cX9_grid 0 = .ok (.aload_n 0, 1) := by decide +kernel
theorem dX9_grid_1 : decode cX9_grid 1 = .ok (.iload_n 1, 1) := by decide +kernel
theorem dX9_grid_2 : decode cX9_grid 2 = .ok (.invokevirtual 173, 3) := by decide +kernel
theorem dX9_grid_5 : decode cX9_grid 5 = .ok (.ifCond .ne 5, 3) := by decide +kernel
theorem dX9_grid_8 : decode cX9_grid 8 = .ok (.iconst (-1), 1) := by decide +kernel
theorem dX9_grid_9 : decode cX9_grid 9 = .ok (.ireturn, 1) := by decide +kernel
theorem dX9_grid_10 : decode cX9_grid 10 = .ok (.aload_n 0, 1) := by decide +kernel
theorem dX9_grid_11 : decode cX9_grid 11 = .ok (.invokevirtual 73, 3) := by decide +kernel
theorem dX9_grid_14 : decode cX9_grid 14 = .ok (.aload_n 0, 1) := by decide +kernel
theorem dX9_grid_15 : decode cX9_grid 15 = .ok (.invokevirtual 176, 3) := by decide +kernel
theorem dX9_grid_18 : decode cX9_grid 18 = .ok (.istore_n 2, 1) := by decide +kernel
theorem dX9_grid_19 : decode cX9_grid 19 = .ok (.iload_n 2, 1) := by decide +kernel
theorem dX9_grid_20 : decode cX9_grid 20 = .ok (.ifCond .eq 39, 3) := by decide +kernel
theorem dX9_grid_23 : decode cX9_grid 23 = .ok (.aload_n 0, 1) := by decide +kernel
theorem dX9_grid_24 : decode cX9_grid 24 = .ok (.getfield 95, 3) := by decide +kernel
theorem dX9_grid_27 : decode cX9_grid 27 = .ok (.aload_n 0, 1) := by decide +kernel
theorem dX9_grid_28 : decode cX9_grid 28 = .ok (.getfield 98, 3) := by decide +kernel
theorem dX9_grid_31 : decode cX9_grid 31 = .ok (.if_icmp .ge 28, 3) := by decide +kernel
theorem dX9_grid_34 : decode cX9_grid 34 = .ok (.aload_n 0, 1) := by decide +kernel
theorem dX9_grid_35 : decode cX9_grid 35 = .ok (.bipush 59, 2) := by decide +kernel
theorem dX9_grid_37 : decode cX9_grid 37 = .ok (.invokevirtual 125, 3) := by decide +kernel
theorem dX9_grid_40 : decode cX9_grid 40 = .ok (.ifCond .eq 14, 3) := by decide +kernel
theorem dX9_grid_43 : decode cX9_grid 43 = .ok (.aload_n 0, 1) := by decide +kernel
theorem dX9_grid_44 : decode cX9_grid 44 = .ok (.invokevirtual 176, 3) := by decide +kernel
theorem dX9_grid_47 : decode cX9_grid 47 = .ok (.ifCond .eq 7, 3) := by decide +kernel
theorem dX9_grid_50 : decode cX9_grid 50 = .ok (.iconst 1, 1) := by decide +kernel
theorem dX9_grid_51 : decode cX9_grid 51 = .ok (.goto 4, 3) := by decide +kernel
theorem dX9_grid_54 : decode cX9_grid 54 = .ok (.iconst 0, 1) := by decide +kernel
theorem dX9_grid_55 : decode cX9_grid 55 = .ok (.istore_n 2, 1) := by decide +kernel
theorem dX9_grid_56 : decode cX9_grid 56 = .ok (.goto (-37), 3) := by decide +kernel
theorem dX9_grid_59 : decode cX9_grid 59 = .ok (.iload_n 2, 1) := by decide +kernel
theorem dX9_grid_60 : decode cX9_grid 60 = .ok (.ifCond .ne 8, 3) := by decide +kernel
theorem dX9_grid_63 : decode cX9_grid 63 = .ok (.aload_n 0, 1) := by decide +kernel
theorem dX9_grid_64 : decode cX9_grid 64 = .ok (.getfield 101, 3) := by decide +kernel
theorem dX9_grid_67 : decode cX9_grid 67 = .ok (.ireturn, 1) := by decide +kernel
theorem dX9_grid_68 : decode cX9_grid 68 = .ok (.aload_n 0, 1) := by decide +kernel
theorem dX9_grid_69 : decode cX9_grid 69 = .ok (.invokevirtual 76, 3) := by decide +kernel
theorem dX9_grid_72 : decode cX9_grid 72 = .ok (.aload_n 0, 1) := by decide +kernel
theorem dX9_grid_73 : decode cX9_grid 73 = .ok (.getfield 7, 3) := by decide +kernel
theorem dX9_grid_76 : decode cX9_grid 76 = .ok (.iconst 4, 1) := by decide +kernel
theorem dX9_grid_77 : decode cX9_grid 77 = .ok (.aload_n 0, 1) := by decide +kernel
theorem dX9_grid_78 : decode cX9_grid 78 = .ok (.getfield 138, 3) := by decide +kernel
theorem dX9_grid_81 : decode cX9_grid 81 = .ok (.iastore, 1) := by decide +kernel
theorem dX9_grid_82 : decode cX9_grid 82 = .ok (.aload_n 0, 1) := by decide +kernel
theorem dX9_grid_83 : decode cX9_grid 83 = .ok (.getfield 138, 3) := by decide +kernel
theorem dX9_grid_86 : decode cX9_grid 86 = .ok (.ireturn, 1) := by decide +kernel
theorem dX9_isUp_0 : decode cX9_isUp 0 = .ok (.aload_n 0, 1) := by decide +kernel
theorem dX9_isUp_1 : decode cX9_isUp 1 = .ok (.getfield 7, 3) := by decide +kernel
theorem dX9_isUp_4 : decode cX9_isUp 4 = .ok (.bipush 12, 2) := by decide +kernel
theorem dX9_isUp_6 : decode cX9_isUp 6 = .ok (.iaload, 1) := by decide +kernel
theorem dX9_isUp_7 : decode cX9_isUp 7 = .ok (.iload_n 1, 1) := by decide +kernel
theorem dX9_isUp_8 : decode cX9_isUp 8 = .ok (.invokestatic 179, 3) := by decide +kernel
theorem dX9_isUp_11 : decode cX9_isUp 11 = .ok (.ireturn, 1) := by decide +kernel
theorem dX9_beyond_0 : decode cX9_beyond 0 = .ok (.aload_n 0, 1) := by decide +kernel
theorem dX9_beyond_1 : decode cX9_beyond 1 = .ok (.iload_n 1, 1) := by decide +kernel
theorem dX9_beyond_2 : decode cX9_beyond 2 = .ok (.invokevirtual 182, 3) := by decide +kernel
theorem dX9_beyond_5 : decode cX9_beyond 5 = .ok (.ifCond .ne 5, 3) := by decide +kernel
theorem dX9_beyond_8 : decode cX9_beyond 8 = .ok (.iconst (-1), 1) := by decide +kernel
theorem dX9_beyond_9 : decode cX9_beyond 9 = .ok (.ireturn, 1) := by decide +kernel
theorem dX9_beyond_10 : decode cX9_beyond 10 = .ok (.aload_n 0, 1) := by decide +kernel
theorem dX9_beyond_11 : decode cX9_beyond 11 = .ok (.getfield 7, 3) := by decide +kernel
theorem dX9_beyond_14 : decode cX9_beyond 14 = .ok (.bipush 16, 2) := by decide +kernel
theorem dX9_beyond_16 : decode cX9_beyond 16 = .ok (.iload_n 1, 1) := by decide +kernel
theorem dX9_beyond_17 : decode cX9_beyond 17 = .ok (.iadd, 1) := by decide +kernel
theorem dX9_beyond_18 : decode cX9_beyond 18 = .ok (.iaload, 1) := by decide +kernel
theorem dX9_beyond_19 : decode cX9_beyond 19 = .ok (.iload_n 2, 1) := by decide +kernel
theorem dX9_beyond_20 : decode cX9_beyond 20 = .ok (.if_icmp .ne 15, 3) := by decide +kernel
theorem dX9_beyond_23 : decode cX9_beyond 23 = .ok (.aload_n 0, 1) := by decide +kernel
theorem dX9_beyond_24 : decode cX9_beyond 24 = .ok (.getfield 7, 3) := by decide +kernel
theorem dX9_beyond_27 : decode cX9_beyond 27 = .ok (.bipush 30, 2) := by decide +kernel
theorem dX9_beyond_29 : decode cX9_beyond 29 = .ok (.iload_n 1, 1) := by decide +kernel
theorem dX9_beyond_30 : decode cX9_beyond 30 = .ok (.iadd, 1) := by decide +kernel
theorem dX9_beyond_31 : decode cX9_beyond 31 = .ok (.iaload, 1) := by decide +kernel
theorem dX9_beyond_32 : decode cX9_beyond 32 = .ok (.goto 29, 3) := by decide +kernel
theorem dX9_beyond_35 : decode cX9_beyond 35 = .ok (.aload_n 0, 1) := by decide +kernel
theorem dX9_beyond_36 : decode cX9_beyond 36 = .ok (.getfield 7, 3) := by decide +kernel
theorem dX9_beyond_39 : decode cX9_beyond 39 = .ok (.bipush 30, 2) := by decide +kernel
theorem dX9_beyond_41 : decode cX9_beyond 41 = .ok (.iload_n 1, 1) := by decide +kernel
theorem dX9_beyond_42 : decode cX9_beyond 42 = .ok (.iadd, 1) := by decide +kernel
theorem dX9_beyond_43 : decode cX9_beyond 43 = .ok (.iaload, 1) := by decide +kernel
theorem dX9_beyond_44 : decode cX9_beyond 44 = .ok (.iload_n 2, 1) := by decide +kernel
theorem dX9_beyond_45 : decode cX9_beyond 45 = .ok (.if_icmp .ne 15, 3) := by decide +kernel
theorem dX9_beyond_48 : decode cX9_beyond 48 = .ok (.aload_n 0, 1) := by decide +kernel
theorem dX9_beyond_49 : decode cX9_beyond 49 = .ok (.getfield 7, 3) := by decide +kernel
theorem dX9_beyond_52 : decode cX9_beyond 52 = .ok (.bipush 16, 2) := by decide +kernel
theorem dX9_beyond_54 : decode cX9_beyond 54 = .ok (.iload_n 1, 1) := by decide +kernel
theorem dX9_beyond_55 : decode cX9_beyond 55 = .ok (.iadd, 1) := by decide +kernel
theorem dX9_beyond_56 : decode cX9_beyond 56 = .ok (.iaload, 1) := by decide +kernel
theorem dX9_beyond_57 : decode cX9_beyond 57 = .ok (.goto 4, 3) := by decide +kernel
theorem dX9_beyond_60 : decode cX9_beyond 60 = .ok (.iconst (-1), 1) := by decide +kernel
theorem dX9_beyond_61 : decode cX9_beyond 61 = .ok (.ireturn, 1) := by decide +kernel
theorem dX9_ranks_0 : decode cX9_ranks 0 = .ok (.iload_n 1, 1) := by decide +kernel
theorem dX9_ranks_1 : decode cX9_ranks 1 = .ok (.istore_n 2, 1) := by decide +kernel
theorem dX9_ranks_2 : decode cX9_ranks 2 = .ok (.iload_n 2, 1) := by decide +kernel
theorem dX9_ranks_3 : decode cX9_ranks 3 = .ok (.ifCond .le 52, 3) := by decide +kernel
theorem dX9_ranks_6 : decode cX9_ranks 6 = .ok (.aload_n 0, 1) := by decide +kernel
theorem dX9_ranks_7 : decode cX9_ranks 7 = .ok (.iload_n 2, 1) := by decide +kernel
theorem dX9_ranks_8 : decode cX9_ranks 8 = .ok (.iload_n 2, 1) := by decide +kernel
theorem dX9_ranks_9 : decode cX9_ranks 9 = .ok (.iconst 1, 1) := by decide +kernel
theorem dX9_ranks_10 : decode cX9_ranks 10 = .ok (.isub, 1) := by decide +kernel
theorem dX9_ranks_11 : decode cX9_ranks 11 = .ok (.invokevirtual 185, 3) := by decide +kernel
theorem dX9_ranks_14 : decode cX9_ranks 14 = .ok (.ifCond .eq 41, 3) := by decide +kernel
theorem dX9_ranks_17 : decode cX9_ranks 17 = .ok (.aload_n 0, 1) := by decide +kernel
theorem dX9_ranks_18 : decode cX9_ranks 18 = .ok (.getfield 20, 3) := by decide +kernel
theorem dX9_ranks_21 : decode cX9_ranks 21 = .ok (.iload_n 2, 1) := by decide +kernel
theorem dX9_ranks_22 : decode cX9_ranks 22 = .ok (.invokestatic 188, 3) := by decide +kernel
theorem dX9_ranks_25 : decode cX9_ranks 25 = .ok (.aload_n 0, 1) := by decide +kernel
theorem dX9_ranks_26 : decode cX9_ranks 26 = .ok (.getfield 23, 3) := by decide +kernel
theorem dX9_ranks_29 : decode cX9_ranks 29 = .ok (.iload_n 2, 1) := by decide +kernel
theorem dX9_ranks_30 : decode cX9_ranks 30 = .ok (.invokestatic 188, 3) := by decide +kernel
theorem dX9_ranks_33 : decode cX9_ranks 33 = .ok (.aload_n 0, 1) := by decide +kernel
theorem dX9_ranks_34 : decode cX9_ranks 34 = .ok (.getfield 26, 3) := by decide +kernel
theorem dX9_ranks_37 : decode cX9_ranks 37 = .ok (.iload_n 2, 1) := by decide +kernel
theorem dX9_ranks_38 : decode cX9_ranks 38 = .ok (.invokestatic 188, 3) := by decide +kernel
theorem dX9_ranks_41 : decode cX9_ranks 41 = .ok (.aload_n 0, 1) := by decide +kernel
theorem dX9_ranks_42 : decode cX9_ranks 42 = .ok (.getfield 29, 3) := by decide +kernel
theorem dX9_ranks_45 : decode cX9_ranks 45 = .ok (.iload_n 2, 1) := by decide +kernel
theorem dX9_ranks_46 : decode cX9_ranks 46 = .ok (.invokestatic 188, 3) := by decide +kernel
theorem dX9_ranks_49 : decode cX9_ranks 49 = .ok (.iinc 2 (-1), 3) := by decide +kernel
theorem dX9_ranks_52 : decode cX9_ranks 52 = .ok (.goto (-50), 3) := by decide +kernel
theorem dX9_ranks_55 : decode cX9_ranks 55 = .ok (.return_, 1) := by decide +kernel
theorem dX9_changes_0 : decode cX9_changes 0 = .ok (.aload_n 0, 1) := by decide +kernel
theorem dX9_changes_1 : decode cX9_changes 1 = .ok (.iload_n 1, 1) := by decide +kernel
theorem dX9_changes_2 : decode cX9_changes 2 = .ok (.iaload, 1) := by decide +kernel
theorem dX9_changes_3 : decode cX9_changes 3 = .ok (.istore_n 2, 1) := by decide +kernel
theorem dX9_changes_4 : decode cX9_changes 4 = .ok (.aload_n 0, 1) := by decide +kernel
theorem dX9_changes_5 : decode cX9_changes 5 = .ok (.iload_n 1, 1) := by decide +kernel
theorem dX9_changes_6 : decode cX9_changes 6 = .ok (.aload_n 0, 1) := by decide +kernel
theorem dX9_changes_7 : decode cX9_changes 7 = .ok (.iload_n 1, 1) := by decide +kernel
theorem dX9_changes_8 : decode cX9_changes 8 = .ok (.iconst 1, 1) := by decide +kernel
theorem dX9_changes_9 : decode cX9_changes 9 = .ok (.isub, 1) := by decide +kernel
theorem dX9_changes_10 : decode cX9_changes 10 = .ok (.iaload, 1) := by decide +kernel
theorem dX9_changes_11 : decode cX9_changes 11 = .ok (.iastore, 1) := by decide +kernel
theorem dX9_changes_12 : decode cX9_changes 12 = .ok (.aload_n 0, 1) := by decide +kernel
theorem dX9_changes_13 : decode cX9_changes 13 = .ok (.iload_n 1, 1) := by decide +kernel
theorem dX9_changes_14 : decode cX9_changes 14 = .ok (.iconst 1, 1) := by decide +kernel
theorem dX9_changes_15 : decode cX9_changes 15 = .ok (.isub, 1) := by decide +kernel
theorem dX9_changes_16 : decode cX9_changes 16 = .ok (.iload_n 2, 1) := by decide +kernel
theorem dX9_changes_17 : decode cX9_changes 17 = .ok (.iastore, 1) := by decide +kernel
theorem dX9_changes_18 : decode cX9_changes 18 = .ok (.return_, 1) := by decide +kernel
theorem dX9_isAhead_0 : decode cX9_isAhead 0 = .ok (.aload_n 0, 1) := by decide +kernel
theorem dX9_isAhead_1 : decode cX9_isAhead 1 = .ok (.getfield 20, 3) := by decide +kernel
theorem dX9_isAhead_4 : decode cX9_isAhead 4 = .ok (.iload_n 1, 1) := by decide +kernel
theorem dX9_isAhead_5 : decode cX9_isAhead 5 = .ok (.iaload, 1) := by decide +kernel
theorem dX9_isAhead_6 : decode cX9_isAhead 6 = .ok (.aload_n 0, 1) := by decide +kernel
theorem dX9_isAhead_7 : decode cX9_isAhead 7 = .ok (.getfield 20, 3) := by decide +kernel
theorem dX9_isAhead_10 : decode cX9_isAhead 10 = .ok (.iload_n 2, 1) := by decide +kernel
theorem dX9_isAhead_11 : decode cX9_isAhead 11 = .ok (.iaload, 1) := by decide +kernel
theorem dX9_isAhead_12 : decode cX9_isAhead 12 = .ok (.if_icmp .eq 24, 3) := by decide +kernel
theorem dX9_isAhead_15 : decode cX9_isAhead 15 = .ok (.aload_n 0, 1) := by decide +kernel
theorem dX9_isAhead_16 : decode cX9_isAhead 16 = .ok (.getfield 20, 3) := by decide +kernel
theorem dX9_isAhead_19 : decode cX9_isAhead 19 = .ok (.iload_n 1, 1) := by decide +kernel
theorem dX9_isAhead_20 : decode cX9_isAhead 20 = .ok (.iaload, 1) := by decide +kernel
theorem dX9_isAhead_21 : decode cX9_isAhead 21 = .ok (.aload_n 0, 1) := by decide +kernel
theorem dX9_isAhead_22 : decode cX9_isAhead 22 = .ok (.getfield 20, 3) := by decide +kernel
theorem dX9_isAhead_25 : decode cX9_isAhead 25 = .ok (.iload_n 2, 1) := by decide +kernel
theorem dX9_isAhead_26 : decode cX9_isAhead 26 = .ok (.iaload, 1) := by decide +kernel
theorem dX9_isAhead_27 : decode cX9_isAhead 27 = .ok (.if_icmp .ge 7, 3) := by decide +kernel
theorem dX9_isAhead_30 : decode cX9_isAhead 30 = .ok (.iconst 1, 1) := by decide +kernel
theorem dX9_isAhead_31 : decode cX9_isAhead 31 = .ok (.goto 4, 3) := by decide +kernel
theorem dX9_isAhead_34 : decode cX9_isAhead 34 = .ok (.iconst 0, 1) := by decide +kernel
theorem dX9_isAhead_35 : decode cX9_isAhead 35 = .ok (.ireturn, 1) := by decide +kernel
theorem dX9_isAhead_36 : decode cX9_isAhead 36 = .ok (.aload_n 0, 1) := by decide +kernel
theorem dX9_isAhead_37 : decode cX9_isAhead 37 = .ok (.getfield 26, 3) := by decide +kernel
theorem dX9_isAhead_40 : decode cX9_isAhead 40 = .ok (.iload_n 1, 1) := by decide +kernel
theorem dX9_isAhead_41 : decode cX9_isAhead 41 = .ok (.iaload, 1) := by decide +kernel
theorem dX9_isAhead_42 : decode cX9_isAhead 42 = .ok (.aload_n 0, 1) := by decide +kernel
theorem dX9_isAhead_43 : decode cX9_isAhead 43 = .ok (.getfield 26, 3) := by decide +kernel
theorem dX9_isAhead_46 : decode cX9_isAhead 46 = .ok (.iload_n 2, 1) := by decide +kernel
theorem dX9_isAhead_47 : decode cX9_isAhead 47 = .ok (.iaload, 1) := by decide +kernel
theorem dX9_isAhead_48 : decode cX9_isAhead 48 = .ok (.if_icmp .eq 26, 3) := by decide +kernel
theorem dX9_isAhead_51 : decode cX9_isAhead 51 = .ok (.aload_n 0, 1) := by decide +kernel
theorem dX9_isAhead_52 : decode cX9_isAhead 52 = .ok (.getfield 26, 3) := by decide +kernel
theorem dX9_isAhead_55 : decode cX9_isAhead 55 = .ok (.iload_n 1, 1) := by decide +kernel
theorem dX9_isAhead_56 : decode cX9_isAhead 56 = .ok (.iaload, 1) := by decide +kernel
theorem dX9_isAhead_57 : decode cX9_isAhead 57 = .ok (.aload_n 0, 1) := by decide +kernel
theorem dX9_isAhead_58 : decode cX9_isAhead 58 = .ok (.getfield 26, 3) := by decide +kernel
theorem dX9_isAhead_61 : decode cX9_isAhead 61 = .ok (.iload_n 2, 1) := by decide +kernel
theorem dX9_isAhead_62 : decode cX9_isAhead 62 = .ok (.iaload, 1) := by decide +kernel
theorem dX9_isAhead_63 : decode cX9_isAhead 63 = .ok (.if_icmp .ge 7, 3) := by decide +kernel
theorem dX9_isAhead_66 : decode cX9_isAhead 66 = .ok (.iconst 1, 1) := by decide +kernel
theorem dX9_isAhead_67 : decode cX9_isAhead 67 = .ok (.goto 27, 3) := by decide +kernel
theorem dX9_isAhead_70 : decode cX9_isAhead 70 = .ok (.iconst 0, 1) := by decide +kernel
theorem dX9_isAhead_71 : decode cX9_isAhead 71 = .ok (.goto 23, 3) := by decide +kernel
theorem dX9_isAhead_74 : decode cX9_isAhead 74 = .ok (.aload_n 0, 1) := by decide +kernel
theorem dX9_isAhead_75 : decode cX9_isAhead 75 = .ok (.getfield 29, 3) := by decide +kernel
theorem dX9_isAhead_78 : decode cX9_isAhead 78 = .ok (.iload_n 1, 1) := by decide +kernel
theorem dX9_isAhead_79 : decode cX9_isAhead 79 = .ok (.iaload, 1) := by decide +kernel
theorem dX9_isAhead_80 : decode cX9_isAhead 80 = .ok (.aload_n 0, 1) := by decide +kernel
theorem dX9_isAhead_81 : decode cX9_isAhead 81 = .ok (.getfield 29, 3) := by decide +kernel
theorem dX9_isAhead_84 : decode cX9_isAhead 84 = .ok (.iload_n 2, 1) := by decide +kernel
theorem dX9_isAhead_85 : decode cX9_isAhead 85 = .ok (.iaload, 1) := by decide +kernel
theorem dX9_isAhead_86 : decode cX9_isAhead 86 = .ok (.if_icmp .ge 7, 3) := by decide +kernel
theorem dX9_isAhead_89 : decode cX9_isAhead 89 = .ok (.iconst 1, 1) := by decide +kernel
theorem dX9_isAhead_90 : decode cX9_isAhead 90 = .ok (.goto 4, 3) := by decide +kernel
theorem dX9_isAhead_93 : decode cX9_isAhead 93 = .ok (.iconst 0, 1) := by decide +kernel
theorem dX9_isAhead_94 : decode cX9_isAhead 94 = .ok (.ireturn, 1) := by decide +kernel
theorem dX9_laysWay_0 : decode cX9_laysWay 0 = .ok (.iconst 0, 1) := by decide +kernel
theorem dX9_laysWay_1 : decode cX9_laysWay 1 = .ok (.istore 4, 2) := by decide +kernel
theorem dX9_laysWay_3 : decode cX9_laysWay 3 = .ok (.iconst 0, 1) := by decide +kernel
theorem dX9_laysWay_4 : decode cX9_laysWay 4 = .ok (.istore 5, 2) := by decide +kernel
theorem dX9_laysWay_6 : decode cX9_laysWay 6 = .ok (.iload 5, 2) := by decide +kernel
theorem dX9_laysWay_8 : decode cX9_laysWay 8 = .ok (.iload_n 1, 1) := by decide +kernel
theorem dX9_laysWay_9 : decode cX9_laysWay 9 = .ok (.if_icmp .gt 24, 3) := by decide +kernel
theorem dX9_laysWay_12 : decode cX9_laysWay 12 = .ok (.bipush 8, 2) := by decide +kernel
theorem dX9_laysWay_14 : decode cX9_laysWay 14 = .ok (.iload 4, 2) := by decide +kernel
theorem dX9_laysWay_16 : decode cX9_laysWay 16 = .ok (.imul, 1) := by decide +kernel
theorem dX9_laysWay_17 : decode cX9_laysWay 17 = .ok (.aload_n 0, 1) := by decide +kernel
theorem dX9_laysWay_18 : decode cX9_laysWay 18 = .ok (.getfield 32, 3) := by decide +kernel
theorem dX9_laysWay_21 : decode cX9_laysWay 21 = .ok (.iload 5, 2) := by decide +kernel
theorem dX9_laysWay_23 : decode cX9_laysWay 23 = .ok (.iaload, 1) := by decide +kernel
theorem dX9_laysWay_24 : decode cX9_laysWay 24 = .ok (.iadd, 1) := by decide +kernel
theorem dX9_laysWay_25 : decode cX9_laysWay 25 = .ok (.istore 4, 2) := by decide +kernel
theorem dX9_laysWay_27 : decode cX9_laysWay 27 = .ok (.iinc 5 1, 3) := by decide +kernel
theorem dX9_laysWay_30 : decode cX9_laysWay 30 = .ok (.goto (-24), 3) := by decide +kernel
theorem dX9_laysWay_33 : decode cX9_laysWay 33 = .ok (.aload_n 0, 1) := by decide +kernel
theorem dX9_laysWay_34 : decode cX9_laysWay 34 = .ok (.getfield 20, 3) := by decide +kernel
theorem dX9_laysWay_37 : decode cX9_laysWay 37 = .ok (.aload_n 0, 1) := by decide +kernel
theorem dX9_laysWay_38 : decode cX9_laysWay 38 = .ok (.getfield 192, 3) := by decide +kernel
theorem dX9_laysWay_41 : decode cX9_laysWay 41 = .ok (.iload_n 3, 1) := by decide +kernel
theorem dX9_laysWay_42 : decode cX9_laysWay 42 = .ok (.iastore, 1) := by decide +kernel
theorem dX9_laysWay_43 : decode cX9_laysWay 43 = .ok (.aload_n 0, 1) := by decide +kernel
theorem dX9_laysWay_44 : decode cX9_laysWay 44 = .ok (.getfield 23, 3) := by decide +kernel
theorem dX9_laysWay_47 : decode cX9_laysWay 47 = .ok (.aload_n 0, 1) := by decide +kernel
theorem dX9_laysWay_48 : decode cX9_laysWay 48 = .ok (.getfield 192, 3) := by decide +kernel
theorem dX9_laysWay_51 : decode cX9_laysWay 51 = .ok (.iload_n 2, 1) := by decide +kernel
theorem dX9_laysWay_52 : decode cX9_laysWay 52 = .ok (.iastore, 1) := by decide +kernel
theorem dX9_laysWay_53 : decode cX9_laysWay 53 = .ok (.aload_n 0, 1) := by decide +kernel
theorem dX9_laysWay_54 : decode cX9_laysWay 54 = .ok (.getfield 26, 3) := by decide +kernel
theorem dX9_laysWay_57 : decode cX9_laysWay 57 = .ok (.aload_n 0, 1) := by decide +kernel
theorem dX9_laysWay_58 : decode cX9_laysWay 58 = .ok (.getfield 192, 3) := by decide +kernel
theorem dX9_laysWay_61 : decode cX9_laysWay 61 = .ok (.iload_n 1, 1) := by decide +kernel
theorem dX9_laysWay_62 : decode cX9_laysWay 62 = .ok (.iastore, 1) := by decide +kernel
theorem dX9_laysWay_63 : decode cX9_laysWay 63 = .ok (.aload_n 0, 1) := by decide +kernel
theorem dX9_laysWay_64 : decode cX9_laysWay 64 = .ok (.getfield 29, 3) := by decide +kernel
theorem dX9_laysWay_67 : decode cX9_laysWay 67 = .ok (.aload_n 0, 1) := by decide +kernel
theorem dX9_laysWay_68 : decode cX9_laysWay 68 = .ok (.getfield 192, 3) := by decide +kernel
theorem dX9_laysWay_71 : decode cX9_laysWay 71 = .ok (.iload 4, 2) := by decide +kernel
theorem dX9_laysWay_73 : decode cX9_laysWay 73 = .ok (.iastore, 1) := by decide +kernel
theorem dX9_laysWay_74 : decode cX9_laysWay 74 = .ok (.aload_n 0, 1) := by decide +kernel
theorem dX9_laysWay_75 : decode cX9_laysWay 75 = .ok (.aload_n 0, 1) := by decide +kernel
theorem dX9_laysWay_76 : decode cX9_laysWay 76 = .ok (.getfield 192, 3) := by decide +kernel
theorem dX9_laysWay_79 : decode cX9_laysWay 79 = .ok (.invokevirtual 195, 3) := by decide +kernel
theorem dX9_laysWay_82 : decode cX9_laysWay 82 = .ok (.aload_n 0, 1) := by decide +kernel
theorem dX9_laysWay_83 : decode cX9_laysWay 83 = .ok (.iconst 4, 1) := by decide +kernel
theorem dX9_laysWay_84 : decode cX9_laysWay 84 = .ok (.aload_n 0, 1) := by decide +kernel
theorem dX9_laysWay_85 : decode cX9_laysWay 85 = .ok (.getfield 192, 3) := by decide +kernel
theorem dX9_laysWay_88 : decode cX9_laysWay 88 = .ok (.iconst 1, 1) := by decide +kernel
theorem dX9_laysWay_89 : decode cX9_laysWay 89 = .ok (.iadd, 1) := by decide +kernel
theorem dX9_laysWay_90 : decode cX9_laysWay 90 = .ok (.invokestatic 198, 3) := by decide +kernel
theorem dX9_laysWay_93 : decode cX9_laysWay 93 = .ok (.putfield 192, 3) := by decide +kernel
theorem dX9_laysWay_96 : decode cX9_laysWay 96 = .ok (.return_, 1) := by decide +kernel
theorem dX9_findsWays_0 : decode cX9_findsWays 0 = .ok (.aload_n 0, 1) := by decide +kernel
theorem dX9_findsWays_1 : decode cX9_findsWays 1 = .ok (.iconst 0, 1) := by decide +kernel
theorem dX9_findsWays_2 : decode cX9_findsWays 2 = .ok (.putfield 192, 3) := by decide +kernel
theorem dX9_findsWays_5 : decode cX9_findsWays 5 = .ok (.iconst 0, 1) := by decide +kernel
theorem dX9_findsWays_6 : decode cX9_findsWays 6 = .ok (.istore_n 3, 1) := by decide +kernel
theorem dX9_findsWays_7 : decode cX9_findsWays 7 = .ok (.iconst 0, 1) := by decide +kernel
theorem dX9_findsWays_8 : decode cX9_findsWays 8 = .ok (.istore 4, 2) := by decide +kernel
theorem dX9_findsWays_10 : decode cX9_findsWays 10 = .ok (.iconst 0, 1) := by decide +kernel
theorem dX9_findsWays_11 : decode cX9_findsWays 11 = .ok (.istore 5, 2) := by decide +kernel
theorem dX9_findsWays_13 : decode cX9_findsWays 13 = .ok (.iconst 1, 1) := by decide +kernel
theorem dX9_findsWays_14 : decode cX9_findsWays 14 = .ok (.iload_n 1, 1) := by decide +kernel
theorem dX9_findsWays_15 : decode cX9_findsWays 15 = .ok (.ishl, 1) := by decide +kernel
theorem dX9_findsWays_16 : decode cX9_findsWays 16 = .ok (.istore 6, 2) := by decide +kernel
theorem dX9_findsWays_18 : decode cX9_findsWays 18 = .ok (.aload_n 0, 1) := by decide +kernel
theorem dX9_findsWays_19 : decode cX9_findsWays 19 = .ok (.getfield 32, 3) := by decide +kernel
theorem dX9_findsWays_22 : decode cX9_findsWays 22 = .ok (.iconst 0, 1) := by decide +kernel
theorem dX9_findsWays_23 : decode cX9_findsWays 23 = .ok (.iload_n 1, 1) := by decide +kernel
theorem dX9_findsWays_24 : decode cX9_findsWays 24 = .ok (.iastore, 1) := by decide +kernel
theorem dX9_findsWays_25 : decode cX9_findsWays 25 = .ok (.aload_n 0, 1) := by decide +kernel
theorem dX9_findsWays_26 : decode cX9_findsWays 26 = .ok (.getfield 35, 3) := by decide +kernel
theorem dX9_findsWays_29 : decode cX9_findsWays 29 = .ok (.iconst 0, 1) := by decide +kernel
theorem dX9_findsWays_30 : decode cX9_findsWays 30 = .ok (.iconst 0, 1) := by decide +kernel
theorem dX9_findsWays_31 : decode cX9_findsWays 31 = .ok (.iastore, 1) := by decide +kernel
theorem dX9_findsWays_32 : decode cX9_findsWays 32 = .ok (.iload_n 3, 1) := by decide +kernel
theorem dX9_findsWays_33 : decode cX9_findsWays 33 = .ok (.ifCond .lt 211, 3) := by decide +kernel
theorem dX9_findsWays_36 : decode cX9_findsWays 36 = .ok (.aload_n 0, 1) := by decide +kernel
theorem dX9_findsWays_37 : decode cX9_findsWays 37 = .ok (.getfield 35, 3) := by decide +kernel
theorem dX9_findsWays_40 : decode cX9_findsWays 40 = .ok (.iload_n 3, 1) := by decide +kernel
theorem dX9_findsWays_41 : decode cX9_findsWays 41 = .ok (.iaload, 1) := by decide +kernel
theorem dX9_findsWays_42 : decode cX9_findsWays 42 = .ok (.istore 7, 2) := by decide +kernel
theorem dX9_findsWays_44 : decode cX9_findsWays 44 = .ok (.iload 7, 2) := by decide +kernel
theorem dX9_findsWays_46 : decode cX9_findsWays 46 = .ok (.aload_n 0, 1) := by decide +kernel
theorem dX9_findsWays_47 : decode cX9_findsWays 47 = .ok (.getfield 7, 3) := by decide +kernel
theorem dX9_findsWays_50 : decode cX9_findsWays 50 = .ok (.iconst 3, 1) := by decide +kernel
theorem dX9_findsWays_51 : decode cX9_findsWays 51 = .ok (.iaload, 1) := by decide +kernel
theorem dX9_findsWays_52 : decode cX9_findsWays 52 = .ok (.if_icmp .eq 13, 3) := by decide +kernel
theorem dX9_findsWays_55 : decode cX9_findsWays 55 = .ok (.aload_n 0, 1) := by decide +kernel
theorem dX9_findsWays_56 : decode cX9_findsWays 56 = .ok (.getfield 32, 3) := by decide +kernel
theorem dX9_findsWays_59 : decode cX9_findsWays 59 = .ok (.iload_n 3, 1) := by decide +kernel
theorem dX9_findsWays_60 : decode cX9_findsWays 60 = .ok (.iaload, 1) := by decide +kernel
theorem dX9_findsWays_61 : decode cX9_findsWays 61 = .ok (.iload_n 2, 1) := by decide +kernel
theorem dX9_findsWays_62 : decode cX9_findsWays 62 = .ok (.if_icmp .ne 69, 3) := by decide +kernel
theorem dX9_findsWays_65 : decode cX9_findsWays 65 = .ok (.iload_n 3, 1) := by decide +kernel
theorem dX9_findsWays_66 : decode cX9_findsWays 66 = .ok (.iconst 1, 1) := by decide +kernel
theorem dX9_findsWays_67 : decode cX9_findsWays 67 = .ok (.isub, 1) := by decide +kernel
theorem dX9_findsWays_68 : decode cX9_findsWays 68 = .ok (.istore_n 3, 1) := by decide +kernel
theorem dX9_findsWays_69 : decode cX9_findsWays 69 = .ok (.iload_n 3, 1) := by decide +kernel
theorem dX9_findsWays_70 : decode cX9_findsWays 70 = .ok (.ifCond .lt (-38), 3) := by decide +kernel
theorem dX9_findsWays_73 : decode cX9_findsWays 73 = .ok (.iload 6, 2) := by decide +kernel
theorem dX9_findsWays_75 : decode cX9_findsWays 75 = .ok (.iconst 1, 1) := by decide +kernel
theorem dX9_findsWays_76 : decode cX9_findsWays 76 = .ok (.aload_n 0, 1) := by decide +kernel
theorem dX9_findsWays_77 : decode cX9_findsWays 77 = .ok (.getfield 32, 3) := by decide +kernel
theorem dX9_findsWays_80 : decode cX9_findsWays 80 = .ok (.iload_n 3, 1) := by decide +kernel
theorem dX9_findsWays_81 : decode cX9_findsWays 81 = .ok (.iconst 1, 1) := by decide +kernel
theorem dX9_findsWays_82 : decode cX9_findsWays 82 = .ok (.iadd, 1) := by decide +kernel
theorem dX9_findsWays_83 : decode cX9_findsWays 83 = .ok (.iaload, 1) := by decide +kernel
theorem dX9_findsWays_84 : decode cX9_findsWays 84 = .ok (.ishl, 1) := by decide +kernel
theorem dX9_findsWays_85 : decode cX9_findsWays 85 = .ok (.iconst (-1), 1) := by decide +kernel
theorem dX9_findsWays_86 : decode cX9_findsWays 86 = .ok (.ixor, 1) := by decide +kernel
theorem dX9_findsWays_87 : decode cX9_findsWays 87 = .ok (.iand, 1) := by decide +kernel
theorem dX9_findsWays_88 : decode cX9_findsWays 88 = .ok (.istore 6, 2) := by decide +kernel
theorem dX9_findsWays_90 : decode cX9_findsWays 90 = .ok (.iload 4, 2) := by decide +kernel
theorem dX9_findsWays_92 : decode cX9_findsWays 92 = .ok (.iconst 1, 1) := by decide +kernel
theorem dX9_findsWays_93 : decode cX9_findsWays 93 = .ok (.aload_n 0, 1) := by decide +kernel
theorem dX9_findsWays_94 : decode cX9_findsWays 94 = .ok (.getfield 35, 3) := by decide +kernel
theorem dX9_findsWays_97 : decode cX9_findsWays 97 = .ok (.iload_n 3, 1) := by decide +kernel
theorem dX9_findsWays_98 : decode cX9_findsWays 98 = .ok (.iaload, 1) := by decide +kernel
theorem dX9_findsWays_99 : decode cX9_findsWays 99 = .ok (.iconst 1, 1) := by decide +kernel
theorem dX9_findsWays_100 : decode cX9_findsWays 100 = .ok (.isub, 1) := by decide +kernel
theorem dX9_findsWays_101 : decode cX9_findsWays 101 = .ok (.ishl, 1) := by decide +kernel
theorem dX9_findsWays_102 : decode cX9_findsWays 102 = .ok (.iconst (-1), 1) := by decide +kernel
theorem dX9_findsWays_103 : decode cX9_findsWays 103 = .ok (.ixor, 1) := by decide +kernel
theorem dX9_findsWays_104 : decode cX9_findsWays 104 = .ok (.iand, 1) := by decide +kernel
theorem dX9_findsWays_105 : decode cX9_findsWays 105 = .ok (.istore 4, 2) := by decide +kernel
theorem dX9_findsWays_107 : decode cX9_findsWays 107 = .ok (.iload 5, 2) := by decide +kernel
theorem dX9_findsWays_109 : decode cX9_findsWays 109 = .ok (.aload_n 0, 1) := by decide +kernel
theorem dX9_findsWays_110 : decode cX9_findsWays 110 = .ok (.getfield 7, 3) := by decide +kernel
theorem dX9_findsWays_113 : decode cX9_findsWays 113 = .ok (.bipush 44, 2) := by decide +kernel
theorem dX9_findsWays_115 : decode cX9_findsWays 115 = .ok (.aload_n 0, 1) := by decide +kernel
theorem dX9_findsWays_116 : decode cX9_findsWays 116 = .ok (.getfield 35, 3) := by decide +kernel
theorem dX9_findsWays_119 : decode cX9_findsWays 119 = .ok (.iload_n 3, 1) := by decide +kernel
theorem dX9_findsWays_120 : decode cX9_findsWays 120 = .ok (.iaload, 1) := by decide +kernel
theorem dX9_findsWays_121 : decode cX9_findsWays 121 = .ok (.iadd, 1) := by decide +kernel
theorem dX9_findsWays_122 : decode cX9_findsWays 122 = .ok (.iconst 1, 1) := by decide +kernel
theorem dX9_findsWays_123 : decode cX9_findsWays 123 = .ok (.isub, 1) := by decide +kernel
theorem dX9_findsWays_124 : decode cX9_findsWays 124 = .ok (.iaload, 1) := by decide +kernel
theorem dX9_findsWays_125 : decode cX9_findsWays 125 = .ok (.isub, 1) := by decide +kernel
theorem dX9_findsWays_126 : decode cX9_findsWays 126 = .ok (.istore 5, 2) := by decide +kernel
theorem dX9_findsWays_128 : decode cX9_findsWays 128 = .ok (.goto (-96), 3) := by decide +kernel
theorem dX9_findsWays_131 : decode cX9_findsWays 131 = .ok (.aload_n 0, 1) := by decide +kernel
theorem dX9_findsWays_132 : decode cX9_findsWays 132 = .ok (.getfield 35, 3) := by decide +kernel
theorem dX9_findsWays_135 : decode cX9_findsWays 135 = .ok (.iload_n 3, 1) := by decide +kernel
theorem dX9_findsWays_136 : decode cX9_findsWays 136 = .ok (.iload 7, 2) := by decide +kernel
theorem dX9_findsWays_138 : decode cX9_findsWays 138 = .ok (.iconst 1, 1) := by decide +kernel
theorem dX9_findsWays_139 : decode cX9_findsWays 139 = .ok (.iadd, 1) := by decide +kernel
theorem dX9_findsWays_140 : decode cX9_findsWays 140 = .ok (.iastore, 1) := by decide +kernel
theorem dX9_findsWays_141 : decode cX9_findsWays 141 = .ok (.aload_n 0, 1) := by decide +kernel
theorem dX9_findsWays_142 : decode cX9_findsWays 142 = .ok (.iload 7, 2) := by decide +kernel
theorem dX9_findsWays_144 : decode cX9_findsWays 144 = .ok (.aload_n 0, 1) := by decide +kernel
theorem dX9_findsWays_145 : decode cX9_findsWays 145 = .ok (.getfield 32, 3) := by decide +kernel
theorem dX9_findsWays_148 : decode cX9_findsWays 148 = .ok (.iload_n 3, 1) := by decide +kernel
theorem dX9_findsWays_149 : decode cX9_findsWays 149 = .ok (.iaload, 1) := by decide +kernel
theorem dX9_findsWays_150 : decode cX9_findsWays 150 = .ok (.invokevirtual 201, 3) := by decide +kernel
theorem dX9_findsWays_153 : decode cX9_findsWays 153 = .ok (.istore 8, 2) := by decide +kernel
theorem dX9_findsWays_155 : decode cX9_findsWays 155 = .ok (.iload 8, 2) := by decide +kernel
theorem dX9_findsWays_157 : decode cX9_findsWays 157 = .ok (.iconst (-1), 1) := by decide +kernel
theorem dX9_findsWays_158 : decode cX9_findsWays 158 = .ok (.if_icmp .eq (-126), 3) := by decide +kernel
theorem dX9_findsWays_161 : decode cX9_findsWays 161 = .ok (.iload 6, 2) := by decide +kernel
theorem dX9_findsWays_163 : decode cX9_findsWays 163 = .ok (.iload 8, 2) := by decide +kernel
theorem dX9_findsWays_165 : decode cX9_findsWays 165 = .ok (.invokestatic 179, 3) := by decide +kernel
theorem dX9_findsWays_168 : decode cX9_findsWays 168 = .ok (.ifCond .eq 6, 3) := by decide +kernel
theorem dX9_findsWays_171 : decode cX9_findsWays 171 = .ok (.goto (-139), 3) := by decide +kernel
theorem dX9_findsWays_174 : decode cX9_findsWays 174 = .ok (.iload_n 3, 1) := by decide +kernel
theorem dX9_findsWays_175 : decode cX9_findsWays 175 = .ok (.iconst 1, 1) := by decide +kernel
theorem dX9_findsWays_176 : decode cX9_findsWays 176 = .ok (.iadd, 1) := by decide +kernel
theorem dX9_findsWays_177 : decode cX9_findsWays 177 = .ok (.istore_n 3, 1) := by decide +kernel
theorem dX9_findsWays_178 : decode cX9_findsWays 178 = .ok (.aload_n 0, 1) := by decide +kernel
theorem dX9_findsWays_179 : decode cX9_findsWays 179 = .ok (.getfield 32, 3) := by decide +kernel
theorem dX9_findsWays_182 : decode cX9_findsWays 182 = .ok (.iload_n 3, 1) := by decide +kernel
theorem dX9_findsWays_183 : decode cX9_findsWays 183 = .ok (.iload 8, 2) := by decide +kernel
theorem dX9_findsWays_185 : decode cX9_findsWays 185 = .ok (.iastore, 1) := by decide +kernel
theorem dX9_findsWays_186 : decode cX9_findsWays 186 = .ok (.aload_n 0, 1) := by decide +kernel
theorem dX9_findsWays_187 : decode cX9_findsWays 187 = .ok (.getfield 35, 3) := by decide +kernel
theorem dX9_findsWays_190 : decode cX9_findsWays 190 = .ok (.iload_n 3, 1) := by decide +kernel
theorem dX9_findsWays_191 : decode cX9_findsWays 191 = .ok (.iconst 0, 1) := by decide +kernel
theorem dX9_findsWays_192 : decode cX9_findsWays 192 = .ok (.iastore, 1) := by decide +kernel
theorem dX9_findsWays_193 : decode cX9_findsWays 193 = .ok (.iload 6, 2) := by decide +kernel
theorem dX9_findsWays_195 : decode cX9_findsWays 195 = .ok (.iconst 1, 1) := by decide +kernel
theorem dX9_findsWays_196 : decode cX9_findsWays 196 = .ok (.iload 8, 2) := by decide +kernel
theorem dX9_findsWays_198 : decode cX9_findsWays 198 = .ok (.ishl, 1) := by decide +kernel
theorem dX9_findsWays_199 : decode cX9_findsWays 199 = .ok (.ior, 1) := by decide +kernel
theorem dX9_findsWays_200 : decode cX9_findsWays 200 = .ok (.istore 6, 2) := by decide +kernel
theorem dX9_findsWays_202 : decode cX9_findsWays 202 = .ok (.iload 4, 2) := by decide +kernel
theorem dX9_findsWays_204 : decode cX9_findsWays 204 = .ok (.iconst 1, 1) := by decide +kernel
theorem dX9_findsWays_205 : decode cX9_findsWays 205 = .ok (.iload 7, 2) := by decide +kernel
theorem dX9_findsWays_207 : decode cX9_findsWays 207 = .ok (.ishl, 1) := by decide +kernel
theorem dX9_findsWays_208 : decode cX9_findsWays 208 = .ok (.ior, 1) := by decide +kernel
theorem dX9_findsWays_209 : decode cX9_findsWays 209 = .ok (.istore 4, 2) := by decide +kernel
theorem dX9_findsWays_211 : decode cX9_findsWays 211 = .ok (.iload 5, 2) := by decide +kernel
theorem dX9_findsWays_213 : decode cX9_findsWays 213 = .ok (.aload_n 0, 1) := by decide +kernel
theorem dX9_findsWays_214 : decode cX9_findsWays 214 = .ok (.getfield 7, 3) := by decide +kernel
theorem dX9_findsWays_217 : decode cX9_findsWays 217 = .ok (.bipush 44, 2) := by decide +kernel
theorem dX9_findsWays_219 : decode cX9_findsWays 219 = .ok (.iload 7, 2) := by decide +kernel
theorem dX9_findsWays_221 : decode cX9_findsWays 221 = .ok (.iadd, 1) := by decide +kernel
theorem dX9_findsWays_222 : decode cX9_findsWays 222 = .ok (.iaload, 1) := by decide +kernel
theorem dX9_findsWays_223 : decode cX9_findsWays 223 = .ok (.iadd, 1) := by decide +kernel
theorem dX9_findsWays_224 : decode cX9_findsWays 224 = .ok (.istore 5, 2) := by decide +kernel
theorem dX9_findsWays_226 : decode cX9_findsWays 226 = .ok (.iload 8, 2) := by decide +kernel
theorem dX9_findsWays_228 : decode cX9_findsWays 228 = .ok (.iload_n 2, 1) := by decide +kernel
theorem dX9_findsWays_229 : decode cX9_findsWays 229 = .ok (.if_icmp .ne 12, 3) := by decide +kernel
theorem dX9_findsWays_232 : decode cX9_findsWays 232 = .ok (.aload_n 0, 1) := by decide +kernel
theorem dX9_findsWays_233 : decode cX9_findsWays 233 = .ok (.iload_n 3, 1) := by decide +kernel
theorem dX9_findsWays_234 : decode cX9_findsWays 234 = .ok (.iload 4, 2) := by decide +kernel
theorem dX9_findsWays_236 : decode cX9_findsWays 236 = .ok (.iload 5, 2) := by decide +kernel
theorem dX9_findsWays_238 : decode cX9_findsWays 238 = .ok (.invokevirtual 204, 3) := by decide +kernel
theorem dX9_findsWays_241 : decode cX9_findsWays 241 = .ok (.goto (-209), 3) := by decide +kernel
theorem dX9_findsWays_244 : decode cX9_findsWays 244 = .ok (.return_, 1) := by decide +kernel
theorem dX9_formatBy_0 : decode cX9_formatBy 0 = .ok (.iconst (-1), 1) := by decide +kernel
theorem dX9_formatBy_1 : decode cX9_formatBy 1 = .ok (.istore_n 2, 1) := by decide +kernel
theorem dX9_formatBy_2 : decode cX9_formatBy 2 = .ok (.iconst 0, 1) := by decide +kernel
theorem dX9_formatBy_3 : decode cX9_formatBy 3 = .ok (.istore_n 3, 1) := by decide +kernel
theorem dX9_formatBy_4 : decode cX9_formatBy 4 = .ok (.iload_n 3, 1) := by decide +kernel
theorem dX9_formatBy_5 : decode cX9_formatBy 5 = .ok (.iconst 4, 1) := by decide +kernel
theorem dX9_formatBy_6 : decode cX9_formatBy 6 = .ok (.if_icmp .ge 24, 3) := by decide +kernel
theorem dX9_formatBy_9 : decode cX9_formatBy 9 = .ok (.aload_n 0, 1) := by decide +kernel
theorem dX9_formatBy_10 : decode cX9_formatBy 10 = .ok (.getfield 7, 3) := by decide +kernel
theorem dX9_formatBy_13 : decode cX9_formatBy 13 = .ok (.bipush 8, 2) := by decide +kernel
theorem dX9_formatBy_15 : decode cX9_formatBy 15 = .ok (.iload_n 3, 1) := by decide +kernel
theorem dX9_formatBy_16 : decode cX9_formatBy 16 = .ok (.iadd, 1) := by decide +kernel
theorem dX9_formatBy_17 : decode cX9_formatBy 17 = .ok (.iaload, 1) := by decide +kernel
theorem dX9_formatBy_18 : decode cX9_formatBy 18 = .ok (.iload_n 1, 1) := by decide +kernel
theorem dX9_formatBy_19 : decode cX9_formatBy 19 = .ok (.if_icmp .lt 5, 3) := by decide +kernel
theorem dX9_formatBy_22 : decode cX9_formatBy 22 = .ok (.iload_n 3, 1) := by decide +kernel
theorem dX9_formatBy_23 : decode cX9_formatBy 23 = .ok (.istore_n 2, 1) := by decide +kernel
theorem dX9_formatBy_24 : decode cX9_formatBy 24 = .ok (.iinc 3 1, 3) := by decide +kernel
theorem dX9_formatBy_27 : decode cX9_formatBy 27 = .ok (.goto (-23), 3) := by decide +kernel
theorem dX9_formatBy_30 : decode cX9_formatBy 30 = .ok (.iload_n 2, 1) := by decide +kernel
theorem dX9_formatBy_31 : decode cX9_formatBy 31 = .ok (.ireturn, 1) := by decide +kernel
theorem dX9_widthOn_0 : decode cX9_widthOn 0 = .ok (.aload_n 0, 1) := by decide +kernel
theorem dX9_widthOn_1 : decode cX9_widthOn 1 = .ok (.aload_n 0, 1) := by decide +kernel
theorem dX9_widthOn_2 : decode cX9_widthOn 2 = .ok (.getfield 20, 3) := by decide +kernel
theorem dX9_widthOn_5 : decode cX9_widthOn 5 = .ok (.iload_n 1, 1) := by decide +kernel
theorem dX9_widthOn_6 : decode cX9_widthOn 6 = .ok (.iaload, 1) := by decide +kernel
theorem dX9_widthOn_7 : decode cX9_widthOn 7 = .ok (.invokevirtual 208, 3) := by decide +kernel
theorem dX9_widthOn_10 : decode cX9_widthOn 10 = .ok (.istore_n 3, 1) := by decide +kernel
theorem dX9_widthOn_11 : decode cX9_widthOn 11 = .ok (.iload_n 3, 1) := by decide +kernel
theorem dX9_widthOn_12 : decode cX9_widthOn 12 = .ok (.iconst (-1), 1) := by decide +kernel
theorem dX9_widthOn_13 : decode cX9_widthOn 13 = .ok (.if_icmp .ne 7, 3) := by decide +kernel
theorem dX9_widthOn_16 : decode cX9_widthOn 16 = .ok (.iconst (-1), 1) := by decide +kernel
theorem dX9_widthOn_17 : decode cX9_widthOn 17 = .ok (.goto 10, 3) := by decide +kernel
theorem dX9_widthOn_20 : decode cX9_widthOn 20 = .ok (.iload_n 2, 1) := by decide +kernel
theorem dX9_widthOn_21 : decode cX9_widthOn 21 = .ok (.iload_n 3, 1) := by decide +kernel
theorem dX9_widthOn_22 : decode cX9_widthOn 22 = .ok (.iadd, 1) := by decide +kernel
theorem dX9_widthOn_23 : decode cX9_widthOn 23 = .ok (.iload_n 3, 1) := by decide +kernel
theorem dX9_widthOn_24 : decode cX9_widthOn 24 = .ok (.iconst 1, 1) := by decide +kernel
theorem dX9_widthOn_25 : decode cX9_widthOn 25 = .ok (.iadd, 1) := by decide +kernel
theorem dX9_widthOn_26 : decode cX9_widthOn 26 = .ok (.idiv, 1) := by decide +kernel
theorem dX9_widthOn_27 : decode cX9_widthOn 27 = .ok (.ireturn, 1) := by decide +kernel
theorem dX9_areNodes_0 : decode cX9_areNodes 0 = .ok (.iload_n 1, 1) := by decide +kernel
theorem dX9_areNodes_1 : decode cX9_areNodes 1 = .ok (.iconst 0, 1) := by decide +kernel
theorem dX9_areNodes_2 : decode cX9_areNodes 2 = .ok (.aload_n 0, 1) := by decide +kernel
theorem dX9_areNodes_3 : decode cX9_areNodes 3 = .ok (.getfield 7, 3) := by decide +kernel
theorem dX9_areNodes_6 : decode cX9_areNodes 6 = .ok (.iconst 0, 1) := by decide +kernel
theorem dX9_areNodes_7 : decode cX9_areNodes 7 = .ok (.iaload, 1) := by decide +kernel
theorem dX9_areNodes_8 : decode cX9_areNodes 8 = .ok (.iconst 1, 1) := by decide +kernel
theorem dX9_areNodes_9 : decode cX9_areNodes 9 = .ok (.isub, 1) := by decide +kernel
theorem dX9_areNodes_10 : decode cX9_areNodes 10 = .ok (.invokestatic 83, 3) := by decide +kernel
theorem dX9_areNodes_13 : decode cX9_areNodes 13 = .ok (.ifCond .eq 28, 3) := by decide +kernel
theorem dX9_areNodes_16 : decode cX9_areNodes 16 = .ok (.iload_n 2, 1) := by decide +kernel
theorem dX9_areNodes_17 : decode cX9_areNodes 17 = .ok (.iconst 0, 1) := by decide +kernel
theorem dX9_areNodes_18 : decode cX9_areNodes 18 = .ok (.aload_n 0, 1) := by decide +kernel
theorem dX9_areNodes_19 : decode cX9_areNodes 19 = .ok (.getfield 7, 3) := by decide +kernel
theorem dX9_areNodes_22 : decode cX9_areNodes 22 = .ok (.iconst 0, 1) := by decide +kernel
theorem dX9_areNodes_23 : decode cX9_areNodes 23 = .ok (.iaload, 1) := by decide +kernel
theorem dX9_areNodes_24 : decode cX9_areNodes 24 = .ok (.iconst 1, 1) := by decide +kernel
theorem dX9_areNodes_25 : decode cX9_areNodes 25 = .ok (.isub, 1) := by decide +kernel
theorem dX9_areNodes_26 : decode cX9_areNodes 26 = .ok (.invokestatic 83, 3) := by decide +kernel
theorem dX9_areNodes_29 : decode cX9_areNodes 29 = .ok (.ifCond .eq 12, 3) := by decide +kernel
theorem dX9_areNodes_32 : decode cX9_areNodes 32 = .ok (.iload_n 1, 1) := by decide +kernel
theorem dX9_areNodes_33 : decode cX9_areNodes 33 = .ok (.iload_n 2, 1) := by decide +kernel
theorem dX9_areNodes_34 : decode cX9_areNodes 34 = .ok (.if_icmp .eq 7, 3) := by decide +kernel
theorem dX9_areNodes_37 : decode cX9_areNodes 37 = .ok (.iconst 1, 1) := by decide +kernel
theorem dX9_areNodes_38 : decode cX9_areNodes 38 = .ok (.goto 4, 3) := by decide +kernel
theorem dX9_areNodes_41 : decode cX9_areNodes 41 = .ok (.iconst 0, 1) := by decide +kernel
theorem dX9_areNodes_42 : decode cX9_areNodes 42 = .ok (.ireturn, 1) := by decide +kernel
theorem dX9_isRate_0 : decode cX9_isRate 0 = .ok (.iload_n 0, 1) := by decide +kernel
theorem dX9_isRate_1 : decode cX9_isRate 1 = .ok (.iconst 1, 1) := by decide +kernel
theorem dX9_isRate_2 : decode cX9_isRate 2 = .ok (.bipush 64, 2) := by decide +kernel
theorem dX9_isRate_4 : decode cX9_isRate 4 = .ok (.invokestatic 83, 3) := by decide +kernel
theorem dX9_isRate_7 : decode cX9_isRate 7 = .ok (.ireturn, 1) := by decide +kernel
theorem dX9_way_0 : decode cX9_way 0 = .ok (.aload_n 0, 1) := by decide +kernel
theorem dX9_way_1 : decode cX9_way 1 = .ok (.iload_n 1, 1) := by decide +kernel
theorem dX9_way_2 : decode cX9_way 2 = .ok (.iload_n 2, 1) := by decide +kernel
theorem dX9_way_3 : decode cX9_way 3 = .ok (.invokevirtual 212, 3) := by decide +kernel
theorem dX9_way_6 : decode cX9_way 6 = .ok (.ifCond .eq 22, 3) := by decide +kernel
theorem dX9_way_9 : decode cX9_way 9 = .ok (.iload_n 3, 1) := by decide +kernel
theorem dX9_way_10 : decode cX9_way 10 = .ok (.iconst 0, 1) := by decide +kernel
theorem dX9_way_11 : decode cX9_way 11 = .ok (.iconst 3, 1) := by decide +kernel
theorem dX9_way_12 : decode cX9_way 12 = .ok (.invokestatic 83, 3) := by decide +kernel
theorem dX9_way_15 : decode cX9_way 15 = .ok (.ifCond .eq 13, 3) := by decide +kernel
theorem dX9_way_18 : decode cX9_way 18 = .ok (.iload 4, 2) := by decide +kernel
theorem dX9_way_20 : decode cX9_way 20 = .ok (.iconst 0, 1) := by decide +kernel
theorem dX9_way_21 : decode cX9_way 21 = .ok (.iconst 4, 1) := by decide +kernel
theorem dX9_way_22 : decode cX9_way 22 = .ok (.invokestatic 83, 3) := by decide +kernel
theorem dX9_way_25 : decode cX9_way 25 = .ok (.ifCond .ne 5, 3) := by decide +kernel
theorem dX9_way_28 : decode cX9_way 28 = .ok (.iconst (-1), 1) := by decide +kernel
theorem dX9_way_29 : decode cX9_way 29 = .ok (.ireturn, 1) := by decide +kernel
theorem dX9_way_30 : decode cX9_way 30 = .ok (.aload_n 0, 1) := by decide +kernel
theorem dX9_way_31 : decode cX9_way 31 = .ok (.iload_n 1, 1) := by decide +kernel
theorem dX9_way_32 : decode cX9_way 32 = .ok (.iload_n 2, 1) := by decide +kernel
theorem dX9_way_33 : decode cX9_way 33 = .ok (.invokevirtual 215, 3) := by decide +kernel
theorem dX9_way_36 : decode cX9_way 36 = .ok (.iload 4, 2) := by decide +kernel
theorem dX9_way_38 : decode cX9_way 38 = .ok (.iconst 4, 1) := by decide +kernel
theorem dX9_way_39 : decode cX9_way 39 = .ok (.if_icmp .ne 8, 3) := by decide +kernel
theorem dX9_way_42 : decode cX9_way 42 = .ok (.aload_n 0, 1) := by decide +kernel
theorem dX9_way_43 : decode cX9_way 43 = .ok (.getfield 192, 3) := by decide +kernel
theorem dX9_way_46 : decode cX9_way 46 = .ok (.ireturn, 1) := by decide +kernel
theorem dX9_way_47 : decode cX9_way 47 = .ok (.iload_n 3, 1) := by decide +kernel
theorem dX9_way_48 : decode cX9_way 48 = .ok (.aload_n 0, 1) := by decide +kernel
theorem dX9_way_49 : decode cX9_way 49 = .ok (.getfield 192, 3) := by decide +kernel
theorem dX9_way_52 : decode cX9_way 52 = .ok (.if_icmp .lt 6, 3) := by decide +kernel
theorem dX9_way_55 : decode cX9_way 55 = .ok (.bipush (-2), 2) := by decide +kernel
theorem dX9_way_57 : decode cX9_way 57 = .ok (.ireturn, 1) := by decide +kernel
theorem dX9_way_58 : decode cX9_way 58 = .ok (.aload_n 0, 1) := by decide +kernel
theorem dX9_way_59 : decode cX9_way 59 = .ok (.aload_n 0, 1) := by decide +kernel
theorem dX9_way_60 : decode cX9_way 60 = .ok (.getfield 20, 3) := by decide +kernel
theorem dX9_way_63 : decode cX9_way 63 = .ok (.iload_n 3, 1) := by decide +kernel
theorem dX9_way_64 : decode cX9_way 64 = .ok (.iaload, 1) := by decide +kernel
theorem dX9_way_65 : decode cX9_way 65 = .ok (.invokevirtual 208, 3) := by decide +kernel
theorem dX9_way_68 : decode cX9_way 68 = .ok (.istore 5, 2) := by decide +kernel
theorem dX9_way_70 : decode cX9_way 70 = .ok (.iload 4, 2) := by decide +kernel
theorem dX9_way_72 : decode cX9_way 72 = .ok (.ifCond .ne 12, 3) := by decide +kernel
theorem dX9_way_75 : decode cX9_way 75 = .ok (.aload_n 0, 1) := by decide +kernel
theorem dX9_way_76 : decode cX9_way 76 = .ok (.getfield 20, 3) := by decide +kernel
theorem dX9_way_79 : decode cX9_way 79 = .ok (.iload_n 3, 1) := by decide +kernel
theorem dX9_way_80 : decode cX9_way 80 = .ok (.iaload, 1) := by decide +kernel
theorem dX9_way_81 : decode cX9_way 81 = .ok (.goto 46, 3) := by decide +kernel
theorem dX9_way_84 : decode cX9_way 84 = .ok (.iload 4, 2) := by decide +kernel
theorem dX9_way_86 : decode cX9_way 86 = .ok (.iconst 1, 1) := by decide +kernel
theorem dX9_way_87 : decode cX9_way 87 = .ok (.if_icmp .ne 12, 3) := by decide +kernel
theorem dX9_way_90 : decode cX9_way 90 = .ok (.aload_n 0, 1) := by decide +kernel
theorem dX9_way_91 : decode cX9_way 91 = .ok (.getfield 26, 3) := by decide +kernel
theorem dX9_way_94 : decode cX9_way 94 = .ok (.iload_n 3, 1) := by decide +kernel
theorem dX9_way_95 : decode cX9_way 95 = .ok (.iaload, 1) := by decide +kernel
theorem dX9_way_96 : decode cX9_way 96 = .ok (.goto 31, 3) := by decide +kernel
theorem dX9_way_99 : decode cX9_way 99 = .ok (.iload 4, 2) := by decide +kernel
theorem dX9_way_101 : decode cX9_way 101 = .ok (.iconst 2, 1) := by decide +kernel
theorem dX9_way_102 : decode cX9_way 102 = .ok (.if_icmp .ne 12, 3) := by decide +kernel
theorem dX9_way_105 : decode cX9_way 105 = .ok (.aload_n 0, 1) := by decide +kernel
theorem dX9_way_106 : decode cX9_way 106 = .ok (.getfield 23, 3) := by decide +kernel
theorem dX9_way_109 : decode cX9_way 109 = .ok (.iload_n 3, 1) := by decide +kernel
theorem dX9_way_110 : decode cX9_way 110 = .ok (.iaload, 1) := by decide +kernel
theorem dX9_way_111 : decode cX9_way 111 = .ok (.goto 16, 3) := by decide +kernel
theorem dX9_way_114 : decode cX9_way 114 = .ok (.iload 5, 2) := by decide +kernel
theorem dX9_way_116 : decode cX9_way 116 = .ok (.iconst (-1), 1) := by decide +kernel
theorem dX9_way_117 : decode cX9_way 117 = .ok (.if_icmp .ne 8, 3) := by decide +kernel
theorem dX9_way_120 : decode cX9_way 120 = .ok (.bipush (-2), 2) := by decide +kernel
theorem dX9_way_122 : decode cX9_way 122 = .ok (.goto 5, 3) := by decide +kernel
theorem dX9_way_125 : decode cX9_way 125 = .ok (.iload 5, 2) := by decide +kernel
theorem dX9_way_127 : decode cX9_way 127 = .ok (.ireturn, 1) := by decide +kernel
theorem dX9_keepsFrom_0 : decode cX9_keepsFrom 0 = .ok (.aload_n 0, 1) := by decide +kernel
theorem dX9_keepsFrom_1 : decode cX9_keepsFrom 1 = .ok (.iload_n 1, 1) := by decide +kernel
theorem dX9_keepsFrom_2 : decode cX9_keepsFrom 2 = .ok (.bipush 6, 2) := by decide +kernel
theorem dX9_keepsFrom_4 : decode cX9_keepsFrom 4 = .ok (.invokevirtual 79, 3) := by decide +kernel
theorem dX9_keepsFrom_7 : decode cX9_keepsFrom 7 = .ok (.iload_n 2, 1) := by decide +kernel
theorem dX9_keepsFrom_8 : decode cX9_keepsFrom 8 = .ok (.iand, 1) := by decide +kernel
theorem dX9_keepsFrom_9 : decode cX9_keepsFrom 9 = .ok (.ifCond .eq 47, 3) := by decide +kernel
theorem dX9_keepsFrom_12 : decode cX9_keepsFrom 12 = .ok (.iload_n 3, 1) := by decide +kernel
theorem dX9_keepsFrom_13 : decode cX9_keepsFrom 13 = .ok (.aload_n 0, 1) := by decide +kernel
theorem dX9_keepsFrom_14 : decode cX9_keepsFrom 14 = .ok (.iload_n 1, 1) := by decide +kernel
theorem dX9_keepsFrom_15 : decode cX9_keepsFrom 15 = .ok (.iconst 4, 1) := by decide +kernel
theorem dX9_keepsFrom_16 : decode cX9_keepsFrom 16 = .ok (.invokevirtual 79, 3) := by decide +kernel
theorem dX9_keepsFrom_19 : decode cX9_keepsFrom 19 = .ok (.aload_n 0, 1) := by decide +kernel
theorem dX9_keepsFrom_20 : decode cX9_keepsFrom 20 = .ok (.iload_n 1, 1) := by decide +kernel
theorem dX9_keepsFrom_21 : decode cX9_keepsFrom 21 = .ok (.iconst 5, 1) := by decide +kernel
theorem dX9_keepsFrom_22 : decode cX9_keepsFrom 22 = .ok (.invokevirtual 79, 3) := by decide +kernel
theorem dX9_keepsFrom_25 : decode cX9_keepsFrom 25 = .ok (.iadd, 1) := by decide +kernel
theorem dX9_keepsFrom_26 : decode cX9_keepsFrom 26 = .ok (.aload_n 0, 1) := by decide +kernel
theorem dX9_keepsFrom_27 : decode cX9_keepsFrom 27 = .ok (.getfield 7, 3) := by decide +kernel
theorem dX9_keepsFrom_30 : decode cX9_keepsFrom 30 = .ok (.iconst 2, 1) := by decide +kernel
theorem dX9_keepsFrom_31 : decode cX9_keepsFrom 31 = .ok (.iaload, 1) := by decide +kernel
theorem dX9_keepsFrom_32 : decode cX9_keepsFrom 32 = .ok (.iadd, 1) := by decide +kernel
theorem dX9_keepsFrom_33 : decode cX9_keepsFrom 33 = .ok (.if_icmp .ge 23, 3) := by decide +kernel
theorem dX9_keepsFrom_36 : decode cX9_keepsFrom 36 = .ok (.aload_n 0, 1) := by decide +kernel
theorem dX9_keepsFrom_37 : decode cX9_keepsFrom 37 = .ok (.iload_n 1, 1) := by decide +kernel
theorem dX9_keepsFrom_38 : decode cX9_keepsFrom 38 = .ok (.iconst 4, 1) := by decide +kernel
theorem dX9_keepsFrom_39 : decode cX9_keepsFrom 39 = .ok (.invokevirtual 79, 3) := by decide +kernel
theorem dX9_keepsFrom_42 : decode cX9_keepsFrom 42 = .ok (.iload_n 3, 1) := by decide +kernel
theorem dX9_keepsFrom_43 : decode cX9_keepsFrom 43 = .ok (.iload 4, 2) := by decide +kernel
theorem dX9_keepsFrom_45 : decode cX9_keepsFrom 45 = .ok (.iadd, 1) := by decide +kernel
theorem dX9_keepsFrom_46 : decode cX9_keepsFrom 46 = .ok (.aload_n 0, 1) := by decide +kernel
theorem dX9_keepsFrom_47 : decode cX9_keepsFrom 47 = .ok (.getfield 7, 3) := by decide +kernel
theorem dX9_keepsFrom_50 : decode cX9_keepsFrom 50 = .ok (.iconst 2, 1) := by decide +kernel
theorem dX9_keepsFrom_51 : decode cX9_keepsFrom 51 = .ok (.iaload, 1) := by decide +kernel
theorem dX9_keepsFrom_52 : decode cX9_keepsFrom 52 = .ok (.iadd, 1) := by decide +kernel
theorem dX9_keepsFrom_53 : decode cX9_keepsFrom 53 = .ok (.if_icmp .lt 7, 3) := by decide +kernel
theorem dX9_keepsFrom_56 : decode cX9_keepsFrom 56 = .ok (.iconst 1, 1) := by decide +kernel
theorem dX9_keepsFrom_57 : decode cX9_keepsFrom 57 = .ok (.goto 4, 3) := by decide +kernel
theorem dX9_keepsFrom_60 : decode cX9_keepsFrom 60 = .ok (.iconst 0, 1) := by decide +kernel
theorem dX9_keepsFrom_61 : decode cX9_keepsFrom 61 = .ok (.ireturn, 1) := by decide +kernel
theorem dX9_against_0 : decode cX9_against 0 = .ok (.iconst 0, 1) := by decide +kernel
theorem dX9_against_1 : decode cX9_against 1 = .ok (.istore 5, 2) := by decide +kernel
theorem dX9_against_3 : decode cX9_against 3 = .ok (.iload 5, 2) := by decide +kernel
theorem dX9_against_5 : decode cX9_against 5 = .ok (.aload_n 0, 1) := by decide +kernel
theorem dX9_against_6 : decode cX9_against 6 = .ok (.getfield 7, 3) := by decide +kernel
theorem dX9_against_9 : decode cX9_against 9 = .ok (.bipush 7, 2) := by decide +kernel
theorem dX9_against_11 : decode cX9_against 11 = .ok (.iaload, 1) := by decide +kernel
theorem dX9_against_12 : decode cX9_against 12 = .ok (.if_icmp .ge 40, 3) := by decide +kernel
theorem dX9_against_15 : decode cX9_against 15 = .ok (.iload 5, 2) := by decide +kernel
theorem dX9_against_17 : decode cX9_against 17 = .ok (.iload 4, 2) := by decide +kernel
theorem dX9_against_19 : decode cX9_against 19 = .ok (.if_icmp .eq 27, 3) := by decide +kernel
theorem dX9_against_22 : decode cX9_against 22 = .ok (.aload_n 0, 1) := by decide +kernel
theorem dX9_against_23 : decode cX9_against 23 = .ok (.iload 5, 2) := by decide +kernel
theorem dX9_against_25 : decode cX9_against 25 = .ok (.invokevirtual 219, 3) := by decide +kernel
theorem dX9_against_28 : decode cX9_against 28 = .ok (.ifCond .eq 18, 3) := by decide +kernel
theorem dX9_against_31 : decode cX9_against 31 = .ok (.aload_n 0, 1) := by decide +kernel
theorem dX9_against_32 : decode cX9_against 32 = .ok (.iload 5, 2) := by decide +kernel
theorem dX9_against_34 : decode cX9_against 34 = .ok (.iload_n 1, 1) := by decide +kernel
theorem dX9_against_35 : decode cX9_against 35 = .ok (.iload_n 2, 1) := by decide +kernel
theorem dX9_against_36 : decode cX9_against 36 = .ok (.iload_n 3, 1) := by decide +kernel
theorem dX9_against_37 : decode cX9_against 37 = .ok (.invokevirtual 222, 3) := by decide +kernel
theorem dX9_against_40 : decode cX9_against 40 = .ok (.ifCond .ne 6, 3) := by decide +kernel
theorem dX9_against_43 : decode cX9_against 43 = .ok (.iload 5, 2) := by decide +kernel
theorem dX9_against_45 : decode cX9_against 45 = .ok (.ireturn, 1) := by decide +kernel
theorem dX9_against_46 : decode cX9_against 46 = .ok (.iinc 5 1, 3) := by decide +kernel
theorem dX9_against_49 : decode cX9_against 49 = .ok (.goto (-46), 3) := by decide +kernel
theorem dX9_against_52 : decode cX9_against 52 = .ok (.iconst (-1), 1) := by decide +kernel
theorem dX9_against_53 : decode cX9_against 53 = .ok (.ireturn, 1) := by decide +kernel
theorem dX9_fits_0 : decode cX9_fits 0 = .ok (.iload_n 2, 1) := by decide +kernel
theorem dX9_fits_1 : decode cX9_fits 1 = .ok (.ifCond .lt 32, 3) := by decide +kernel
theorem dX9_fits_4 : decode cX9_fits 4 = .ok (.iload_n 2, 1) := by decide +kernel
theorem dX9_fits_5 : decode cX9_fits 5 = .ok (.iload_n 3, 1) := by decide +kernel
theorem dX9_fits_6 : decode cX9_fits 6 = .ok (.iadd, 1) := by decide +kernel
theorem dX9_fits_7 : decode cX9_fits 7 = .ok (.aload_n 0, 1) := by decide +kernel
theorem dX9_fits_8 : decode cX9_fits 8 = .ok (.getfield 7, 3) := by decide +kernel
theorem dX9_fits_11 : decode cX9_fits 11 = .ok (.iconst 1, 1) := by decide +kernel
theorem dX9_fits_12 : decode cX9_fits 12 = .ok (.iaload, 1) := by decide +kernel
theorem dX9_fits_13 : decode cX9_fits 13 = .ok (.if_icmp .gt 20, 3) := by decide +kernel
theorem dX9_fits_16 : decode cX9_fits 16 = .ok (.aload_n 0, 1) := by decide +kernel
theorem dX9_fits_17 : decode cX9_fits 17 = .ok (.iload_n 1, 1) := by decide +kernel
theorem dX9_fits_18 : decode cX9_fits 18 = .ok (.iload_n 2, 1) := by decide +kernel
theorem dX9_fits_19 : decode cX9_fits 19 = .ok (.iload_n 3, 1) := by decide +kernel
theorem dX9_fits_20 : decode cX9_fits 20 = .ok (.iload 4, 2) := by decide +kernel
theorem dX9_fits_22 : decode cX9_fits 22 = .ok (.invokevirtual 226, 3) := by decide +kernel
theorem dX9_fits_25 : decode cX9_fits 25 = .ok (.iconst (-1), 1) := by decide +kernel
theorem dX9_fits_26 : decode cX9_fits 26 = .ok (.if_icmp .ne 7, 3) := by decide +kernel
theorem dX9_fits_29 : decode cX9_fits 29 = .ok (.iconst 1, 1) := by decide +kernel
theorem dX9_fits_30 : decode cX9_fits 30 = .ok (.goto 4, 3) := by decide +kernel
theorem dX9_fits_33 : decode cX9_fits 33 = .ok (.iconst 0, 1) := by decide +kernel
theorem dX9_fits_34 : decode cX9_fits 34 = .ok (.ireturn, 1) := by decide +kernel
theorem dX9_isFree_0 : decode cX9_isFree 0 = .ok (.iload_n 2, 1) := by decide +kernel
theorem dX9_isFree_1 : decode cX9_isFree 1 = .ok (.iconst 0, 1) := by decide +kernel
theorem dX9_isFree_2 : decode cX9_isFree 2 = .ok (.aload_n 0, 1) := by decide +kernel
theorem dX9_isFree_3 : decode cX9_isFree 3 = .ok (.getfield 7, 3) := by decide +kernel
theorem dX9_isFree_6 : decode cX9_isFree 6 = .ok (.iconst 1, 1) := by decide +kernel
theorem dX9_isFree_7 : decode cX9_isFree 7 = .ok (.iaload, 1) := by decide +kernel
theorem dX9_isFree_8 : decode cX9_isFree 8 = .ok (.iconst 1, 1) := by decide +kernel
theorem dX9_isFree_9 : decode cX9_isFree 9 = .ok (.isub, 1) := by decide +kernel
theorem dX9_isFree_10 : decode cX9_isFree 10 = .ok (.invokestatic 83, 3) := by decide +kernel
theorem dX9_isFree_13 : decode cX9_isFree 13 = .ok (.ifCond .ne 5, 3) := by decide +kernel
theorem dX9_isFree_16 : decode cX9_isFree 16 = .ok (.iconst 0, 1) := by decide +kernel
theorem dX9_isFree_17 : decode cX9_isFree 17 = .ok (.ireturn, 1) := by decide +kernel
theorem dX9_isFree_18 : decode cX9_isFree 18 = .ok (.iconst 0, 1) := by decide +kernel
theorem dX9_isFree_19 : decode cX9_isFree 19 = .ok (.istore_n 3, 1) := by decide +kernel
theorem dX9_isFree_20 : decode cX9_isFree 20 = .ok (.iload_n 3, 1) := by decide +kernel
theorem dX9_isFree_21 : decode cX9_isFree 21 = .ok (.aload_n 0, 1) := by decide +kernel
theorem dX9_isFree_22 : decode cX9_isFree 22 = .ok (.getfield 7, 3) := by decide +kernel
theorem dX9_isFree_25 : decode cX9_isFree 25 = .ok (.bipush 7, 2) := by decide +kernel
theorem dX9_isFree_27 : decode cX9_isFree 27 = .ok (.iaload, 1) := by decide +kernel
theorem dX9_isFree_28 : decode cX9_isFree 28 = .ok (.if_icmp .ge 59, 3) := by decide +kernel
theorem dX9_isFree_31 : decode cX9_isFree 31 = .ok (.aload_n 0, 1) := by decide +kernel
theorem dX9_isFree_32 : decode cX9_isFree 32 = .ok (.iload_n 3, 1) := by decide +kernel
theorem dX9_isFree_33 : decode cX9_isFree 33 = .ok (.invokevirtual 219, 3) := by decide +kernel
theorem dX9_isFree_36 : decode cX9_isFree 36 = .ok (.ifCond .eq 45, 3) := by decide +kernel
theorem dX9_isFree_39 : decode cX9_isFree 39 = .ok (.aload_n 0, 1) := by decide +kernel
theorem dX9_isFree_40 : decode cX9_isFree 40 = .ok (.iload_n 3, 1) := by decide +kernel
theorem dX9_isFree_41 : decode cX9_isFree 41 = .ok (.bipush 6, 2) := by decide +kernel
theorem dX9_isFree_43 : decode cX9_isFree 43 = .ok (.invokevirtual 79, 3) := by decide +kernel
theorem dX9_isFree_46 : decode cX9_isFree 46 = .ok (.iload_n 1, 1) := by decide +kernel
theorem dX9_isFree_47 : decode cX9_isFree 47 = .ok (.iand, 1) := by decide +kernel
theorem dX9_isFree_48 : decode cX9_isFree 48 = .ok (.ifCond .eq 33, 3) := by decide +kernel
theorem dX9_isFree_51 : decode cX9_isFree 51 = .ok (.iload_n 2, 1) := by decide +kernel
theorem dX9_isFree_52 : decode cX9_isFree 52 = .ok (.aload_n 0, 1) := by decide +kernel
theorem dX9_isFree_53 : decode cX9_isFree 53 = .ok (.iload_n 3, 1) := by decide +kernel
theorem dX9_isFree_54 : decode cX9_isFree 54 = .ok (.iconst 4, 1) := by decide +kernel
theorem dX9_isFree_55 : decode cX9_isFree 55 = .ok (.invokevirtual 79, 3) := by decide +kernel
theorem dX9_isFree_58 : decode cX9_isFree 58 = .ok (.aload_n 0, 1) := by decide +kernel
theorem dX9_isFree_59 : decode cX9_isFree 59 = .ok (.iload_n 3, 1) := by decide +kernel
theorem dX9_isFree_60 : decode cX9_isFree 60 = .ok (.iconst 4, 1) := by decide +kernel
theorem dX9_isFree_61 : decode cX9_isFree 61 = .ok (.invokevirtual 79, 3) := by decide +kernel
theorem dX9_isFree_64 : decode cX9_isFree 64 = .ok (.aload_n 0, 1) := by decide +kernel
theorem dX9_isFree_65 : decode cX9_isFree 65 = .ok (.iload_n 3, 1) := by decide +kernel
theorem dX9_isFree_66 : decode cX9_isFree 66 = .ok (.iconst 5, 1) := by decide +kernel
theorem dX9_isFree_67 : decode cX9_isFree 67 = .ok (.invokevirtual 79, 3) := by decide +kernel
theorem dX9_isFree_70 : decode cX9_isFree 70 = .ok (.iadd, 1) := by decide +kernel
theorem dX9_isFree_71 : decode cX9_isFree 71 = .ok (.iconst 1, 1) := by decide +kernel
theorem dX9_isFree_72 : decode cX9_isFree 72 = .ok (.isub, 1) := by decide +kernel
theorem dX9_isFree_73 : decode cX9_isFree 73 = .ok (.invokestatic 83, 3) := by decide +kernel
theorem dX9_isFree_76 : decode cX9_isFree 76 = .ok (.ifCond .eq 5, 3) := by decide +kernel
theorem dX9_isFree_79 : decode cX9_isFree 79 = .ok (.iconst 0, 1) := by decide +kernel
theorem dX9_isFree_80 : decode cX9_isFree 80 = .ok (.ireturn, 1) := by decide +kernel
theorem dX9_isFree_81 : decode cX9_isFree 81 = .ok (.iinc 3 1, 3) := by decide +kernel
theorem dX9_isFree_84 : decode cX9_isFree 84 = .ok (.goto (-64), 3) := by decide +kernel
theorem dX9_isFree_87 : decode cX9_isFree 87 = .ok (.iconst 1, 1) := by decide +kernel
theorem dX9_isFree_88 : decode cX9_isFree 88 = .ok (.ireturn, 1) := by decide +kernel
theorem dX9_rowAbout_0 : decode cX9_rowAbout 0 = .ok (.iload_n 2, 1) := by decide +kernel
theorem dX9_rowAbout_1 : decode cX9_rowAbout 1 = .ok (.istore 4, 2) := by decide +kernel
theorem dX9_rowAbout_3 : decode cX9_rowAbout 3 = .ok (.iload_n 2, 1) := by decide +kernel
theorem dX9_rowAbout_4 : decode cX9_rowAbout 4 = .ok (.iload_n 3, 1) := by decide +kernel
theorem dX9_rowAbout_5 : decode cX9_rowAbout 5 = .ok (.iadd, 1) := by decide +kernel
theorem dX9_rowAbout_6 : decode cX9_rowAbout 6 = .ok (.istore 5, 2) := by decide +kernel
theorem dX9_rowAbout_8 : decode cX9_rowAbout 8 = .ok (.aload_n 0, 1) := by decide +kernel
theorem dX9_rowAbout_9 : decode cX9_rowAbout 9 = .ok (.iload_n 1, 1) := by decide +kernel
theorem dX9_rowAbout_10 : decode cX9_rowAbout 10 = .ok (.iload 4, 2) := by decide +kernel
theorem dX9_rowAbout_12 : decode cX9_rowAbout 12 = .ok (.iconst 1, 1) := by decide +kernel
theorem dX9_rowAbout_13 : decode cX9_rowAbout 13 = .ok (.isub, 1) := by decide +kernel
theorem dX9_rowAbout_14 : decode cX9_rowAbout 14 = .ok (.invokevirtual 230, 3) := by decide +kernel
theorem dX9_rowAbout_17 : decode cX9_rowAbout 17 = .ok (.ifCond .eq 12, 3) := by decide +kernel
theorem dX9_rowAbout_20 : decode cX9_rowAbout 20 = .ok (.iload 4, 2) := by decide +kernel
theorem dX9_rowAbout_22 : decode cX9_rowAbout 22 = .ok (.iconst 1, 1) := by decide +kernel
theorem dX9_rowAbout_23 : decode cX9_rowAbout 23 = .ok (.isub, 1) := by decide +kernel
theorem dX9_rowAbout_24 : decode cX9_rowAbout 24 = .ok (.istore 4, 2) := by decide +kernel
theorem dX9_rowAbout_26 : decode cX9_rowAbout 26 = .ok (.goto (-18), 3) := by decide +kernel
theorem dX9_rowAbout_29 : decode cX9_rowAbout 29 = .ok (.aload_n 0, 1) := by decide +kernel
theorem dX9_rowAbout_30 : decode cX9_rowAbout 30 = .ok (.iload_n 1, 1) := by decide +kernel
theorem dX9_rowAbout_31 : decode cX9_rowAbout 31 = .ok (.iload 5, 2) := by decide +kernel
theorem dX9_rowAbout_33 : decode cX9_rowAbout 33 = .ok (.invokevirtual 230, 3) := by decide +kernel
theorem dX9_rowAbout_36 : decode cX9_rowAbout 36 = .ok (.ifCond .eq 12, 3) := by decide +kernel
theorem dX9_rowAbout_39 : decode cX9_rowAbout 39 = .ok (.iload 5, 2) := by decide +kernel
theorem dX9_rowAbout_41 : decode cX9_rowAbout 41 = .ok (.iconst 1, 1) := by decide +kernel
theorem dX9_rowAbout_42 : decode cX9_rowAbout 42 = .ok (.iadd, 1) := by decide +kernel
theorem dX9_rowAbout_43 : decode cX9_rowAbout 43 = .ok (.istore 5, 2) := by decide +kernel
theorem dX9_rowAbout_45 : decode cX9_rowAbout 45 = .ok (.goto (-16), 3) := by decide +kernel
theorem dX9_rowAbout_48 : decode cX9_rowAbout 48 = .ok (.iload 5, 2) := by decide +kernel
theorem dX9_rowAbout_50 : decode cX9_rowAbout 50 = .ok (.iload 4, 2) := by decide +kernel
theorem dX9_rowAbout_52 : decode cX9_rowAbout 52 = .ok (.isub, 1) := by decide +kernel
theorem dX9_rowAbout_53 : decode cX9_rowAbout 53 = .ok (.ireturn, 1) := by decide +kernel
theorem dX9_finds_0 : decode cX9_finds 0 = .ok (.aload_n 0, 1) := by decide +kernel
theorem dX9_finds_1 : decode cX9_finds 1 = .ok (.iconst (-1), 1) := by decide +kernel
theorem dX9_finds_2 : decode cX9_finds 2 = .ok (.putfield 233, 3) := by decide +kernel
theorem dX9_finds_5 : decode cX9_finds 5 = .ok (.ldc 236, 2) := by decide +kernel
theorem dX9_finds_7 : decode cX9_finds 7 = .ok (.istore_n 3, 1) := by decide +kernel
theorem dX9_finds_8 : decode cX9_finds 8 = .ok (.iconst 0, 1) := by decide +kernel
theorem dX9_finds_9 : decode cX9_finds 9 = .ok (.istore 4, 2) := by decide +kernel
theorem dX9_finds_11 : decode cX9_finds 11 = .ok (.iload 4, 2) := by decide +kernel
theorem dX9_finds_13 : decode cX9_finds 13 = .ok (.aload_n 0, 1) := by decide +kernel
theorem dX9_finds_14 : decode cX9_finds 14 = .ok (.getfield 192, 3) := by decide +kernel
theorem dX9_finds_17 : decode cX9_finds 17 = .ok (.if_icmp .ge 180, 3) := by decide +kernel
theorem dX9_finds_20 : decode cX9_finds 20 = .ok (.aload_n 0, 1) := by decide +kernel
theorem dX9_finds_21 : decode cX9_finds 21 = .ok (.iload 4, 2) := by decide +kernel
theorem dX9_finds_23 : decode cX9_finds 23 = .ok (.iload_n 1, 1) := by decide +kernel
theorem dX9_finds_24 : decode cX9_finds 24 = .ok (.invokevirtual 237, 3) := by decide +kernel
theorem dX9_finds_27 : decode cX9_finds 27 = .ok (.istore 5, 2) := by decide +kernel
theorem dX9_finds_29 : decode cX9_finds 29 = .ok (.iload 5, 2) := by decide +kernel
theorem dX9_finds_31 : decode cX9_finds 31 = .ok (.iconst (-1), 1) := by decide +kernel
theorem dX9_finds_32 : decode cX9_finds 32 = .ok (.if_icmp .eq 159, 3) := by decide +kernel
theorem dX9_finds_35 : decode cX9_finds 35 = .ok (.aload_n 0, 1) := by decide +kernel
theorem dX9_finds_36 : decode cX9_finds 36 = .ok (.getfield 233, 3) := by decide +kernel
theorem dX9_finds_39 : decode cX9_finds 39 = .ok (.iconst (-1), 1) := by decide +kernel
theorem dX9_finds_40 : decode cX9_finds 40 = .ok (.if_icmp .eq 15, 3) := by decide +kernel
theorem dX9_finds_43 : decode cX9_finds 43 = .ok (.iload_n 2, 1) := by decide +kernel
theorem dX9_finds_44 : decode cX9_finds 44 = .ok (.ifCond .eq 147, 3) := by decide +kernel
theorem dX9_finds_47 : decode cX9_finds 47 = .ok (.iload_n 2, 1) := by decide +kernel
theorem dX9_finds_48 : decode cX9_finds 48 = .ok (.iconst 3, 1) := by decide +kernel
theorem dX9_finds_49 : decode cX9_finds 49 = .ok (.if_icmp .ne 6, 3) := by decide +kernel
theorem dX9_finds_52 : decode cX9_finds 52 = .ok (.goto 139, 3) := by decide +kernel
theorem dX9_finds_55 : decode cX9_finds 55 = .ok (.iconst 0, 1) := by decide +kernel
theorem dX9_finds_56 : decode cX9_finds 56 = .ok (.istore 6, 2) := by decide +kernel
theorem dX9_finds_58 : decode cX9_finds 58 = .ok (.iload 6, 2) := by decide +kernel
theorem dX9_finds_60 : decode cX9_finds 60 = .ok (.iload 5, 2) := by decide +kernel
theorem dX9_finds_62 : decode cX9_finds 62 = .ok (.iadd, 1) := by decide +kernel
theorem dX9_finds_63 : decode cX9_finds 63 = .ok (.aload_n 0, 1) := by decide +kernel
theorem dX9_finds_64 : decode cX9_finds 64 = .ok (.getfield 7, 3) := by decide +kernel
theorem dX9_finds_67 : decode cX9_finds 67 = .ok (.iconst 1, 1) := by decide +kernel
theorem dX9_finds_68 : decode cX9_finds 68 = .ok (.iaload, 1) := by decide +kernel
theorem dX9_finds_69 : decode cX9_finds 69 = .ok (.if_icmp .gt 122, 3) := by decide +kernel
theorem dX9_finds_72 : decode cX9_finds 72 = .ok (.iload_n 2, 1) := by decide +kernel
theorem dX9_finds_73 : decode cX9_finds 73 = .ok (.iconst 3, 1) := by decide +kernel
theorem dX9_finds_74 : decode cX9_finds 74 = .ok (.if_icmp .ne 18, 3) := by decide +kernel
theorem dX9_finds_77 : decode cX9_finds 77 = .ok (.aload_n 0, 1) := by decide +kernel
theorem dX9_finds_78 : decode cX9_finds 78 = .ok (.getfield 7, 3) := by decide +kernel
theorem dX9_finds_81 : decode cX9_finds 81 = .ok (.iconst 1, 1) := by decide +kernel
theorem dX9_finds_82 : decode cX9_finds 82 = .ok (.iaload, 1) := by decide +kernel
theorem dX9_finds_83 : decode cX9_finds 83 = .ok (.iload 5, 2) := by decide +kernel
theorem dX9_finds_85 : decode cX9_finds 85 = .ok (.isub, 1) := by decide +kernel
theorem dX9_finds_86 : decode cX9_finds 86 = .ok (.iload 6, 2) := by decide +kernel
theorem dX9_finds_88 : decode cX9_finds 88 = .ok (.isub, 1) := by decide +kernel
theorem dX9_finds_89 : decode cX9_finds 89 = .ok (.goto 5, 3) := by decide +kernel
theorem dX9_finds_92 : decode cX9_finds 92 = .ok (.iload 6, 2) := by decide +kernel
theorem dX9_finds_94 : decode cX9_finds 94 = .ok (.istore 7, 2) := by decide +kernel
theorem dX9_finds_96 : decode cX9_finds 96 = .ok (.aload_n 0, 1) := by decide +kernel
theorem dX9_finds_97 : decode cX9_finds 97 = .ok (.aload_n 0, 1) := by decide +kernel
theorem dX9_finds_98 : decode cX9_finds 98 = .ok (.getfield 23, 3) := by decide +kernel
theorem dX9_finds_101 : decode cX9_finds 101 = .ok (.iload 4, 2) := by decide +kernel
theorem dX9_finds_103 : decode cX9_finds 103 = .ok (.iaload, 1) := by decide +kernel
theorem dX9_finds_104 : decode cX9_finds 104 = .ok (.iload 7, 2) := by decide +kernel
theorem dX9_finds_106 : decode cX9_finds 106 = .ok (.iload 5, 2) := by decide +kernel
theorem dX9_finds_108 : decode cX9_finds 108 = .ok (.iconst (-1), 1) := by decide +kernel
theorem dX9_finds_109 : decode cX9_finds 109 = .ok (.invokevirtual 240, 3) := by decide +kernel
theorem dX9_finds_112 : decode cX9_finds 112 = .ok (.ifCond .ne 6, 3) := by decide +kernel
theorem dX9_finds_115 : decode cX9_finds 115 = .ok (.goto 70, 3) := by decide +kernel
theorem dX9_finds_118 : decode cX9_finds 118 = .ok (.iload_n 2, 1) := by decide +kernel
theorem dX9_finds_119 : decode cX9_finds 119 = .ok (.iconst 2, 1) := by decide +kernel
theorem dX9_finds_120 : decode cX9_finds 120 = .ok (.if_icmp .ne 21, 3) := by decide +kernel
theorem dX9_finds_123 : decode cX9_finds 123 = .ok (.aload_n 0, 1) := by decide +kernel
theorem dX9_finds_124 : decode cX9_finds 124 = .ok (.aload_n 0, 1) := by decide +kernel
theorem dX9_finds_125 : decode cX9_finds 125 = .ok (.getfield 23, 3) := by decide +kernel
theorem dX9_finds_128 : decode cX9_finds 128 = .ok (.iload 4, 2) := by decide +kernel
theorem dX9_finds_130 : decode cX9_finds 130 = .ok (.iaload, 1) := by decide +kernel
theorem dX9_finds_131 : decode cX9_finds 131 = .ok (.iload 7, 2) := by decide +kernel
theorem dX9_finds_133 : decode cX9_finds 133 = .ok (.iload 5, 2) := by decide +kernel
theorem dX9_finds_135 : decode cX9_finds 135 = .ok (.invokevirtual 243, 3) := by decide +kernel
theorem dX9_finds_138 : decode cX9_finds 138 = .ok (.goto 15, 3) := by decide +kernel
theorem dX9_finds_141 : decode cX9_finds 141 = .ok (.iload_n 2, 1) := by decide +kernel
theorem dX9_finds_142 : decode cX9_finds 142 = .ok (.iconst 1, 1) := by decide +kernel
theorem dX9_finds_143 : decode cX9_finds 143 = .ok (.if_icmp .ne 8, 3) := by decide +kernel
theorem dX9_finds_146 : decode cX9_finds 146 = .ok (.iload 7, 2) := by decide +kernel
theorem dX9_finds_148 : decode cX9_finds 148 = .ok (.goto 5, 3) := by decide +kernel
theorem dX9_finds_151 : decode cX9_finds 151 = .ok (.iload 6, 2) := by decide +kernel
theorem dX9_finds_153 : decode cX9_finds 153 = .ok (.istore 8, 2) := by decide +kernel
theorem dX9_finds_155 : decode cX9_finds 155 = .ok (.iload 8, 2) := by decide +kernel
theorem dX9_finds_157 : decode cX9_finds 157 = .ok (.iload_n 3, 1) := by decide +kernel
theorem dX9_finds_158 : decode cX9_finds 158 = .ok (.if_icmp .lt 6, 3) := by decide +kernel
theorem dX9_finds_161 : decode cX9_finds 161 = .ok (.goto 24, 3) := by decide +kernel
theorem dX9_finds_164 : decode cX9_finds 164 = .ok (.iload 8, 2) := by decide +kernel
theorem dX9_finds_166 : decode cX9_finds 166 = .ok (.istore_n 3, 1) := by decide +kernel
theorem dX9_finds_167 : decode cX9_finds 167 = .ok (.aload_n 0, 1) := by decide +kernel
theorem dX9_finds_168 : decode cX9_finds 168 = .ok (.iload 4, 2) := by decide +kernel
theorem dX9_finds_170 : decode cX9_finds 170 = .ok (.putfield 233, 3) := by decide +kernel
theorem dX9_finds_173 : decode cX9_finds 173 = .ok (.aload_n 0, 1) := by decide +kernel
theorem dX9_finds_174 : decode cX9_finds 174 = .ok (.iload 7, 2) := by decide +kernel
theorem dX9_finds_176 : decode cX9_finds 176 = .ok (.putfield 247, 3) := by decide +kernel
theorem dX9_finds_179 : decode cX9_finds 179 = .ok (.aload_n 0, 1) := by decide +kernel
theorem dX9_finds_180 : decode cX9_finds 180 = .ok (.iload 5, 2) := by decide +kernel
theorem dX9_finds_182 : decode cX9_finds 182 = .ok (.putfield 250, 3) := by decide +kernel
theorem dX9_finds_185 : decode cX9_finds 185 = .ok (.iinc 6 1, 3) := by decide +kernel
theorem dX9_finds_188 : decode cX9_finds 188 = .ok (.goto (-130), 3) := by decide +kernel
theorem dX9_finds_191 : decode cX9_finds 191 = .ok (.iinc 4 1, 3) := by decide +kernel
theorem dX9_finds_194 : decode cX9_finds 194 = .ok (.goto (-183), 3) := by decide +kernel
theorem dX9_finds_197 : decode cX9_finds 197 = .ok (.aload_n 0, 1) := by decide +kernel
theorem dX9_finds_198 : decode cX9_finds 198 = .ok (.getfield 233, 3) := by decide +kernel
theorem dX9_finds_201 : decode cX9_finds 201 = .ok (.iconst (-1), 1) := by decide +kernel
theorem dX9_finds_202 : decode cX9_finds 202 = .ok (.if_icmp .eq 7, 3) := by decide +kernel
theorem dX9_finds_205 : decode cX9_finds 205 = .ok (.iconst 1, 1) := by decide +kernel
theorem dX9_finds_206 : decode cX9_finds 206 = .ok (.goto 4, 3) := by decide +kernel
theorem dX9_finds_209 : decode cX9_finds 209 = .ok (.iconst 0, 1) := by decide +kernel
theorem dX9_finds_210 : decode cX9_finds 210 = .ok (.ireturn, 1) := by decide +kernel
theorem dX9_findsFor_0 : decode cX9_findsFor 0 = .ok (.aload_n 0, 1) := by decide +kernel
theorem dX9_findsFor_1 : decode cX9_findsFor 1 = .ok (.iload_n 1, 1) := by decide +kernel
theorem dX9_findsFor_2 : decode cX9_findsFor 2 = .ok (.iload_n 2, 1) := by decide +kernel
theorem dX9_findsFor_3 : decode cX9_findsFor 3 = .ok (.invokevirtual 215, 3) := by decide +kernel
theorem dX9_findsFor_6 : decode cX9_findsFor 6 = .ok (.aload_n 0, 1) := by decide +kernel
theorem dX9_findsFor_7 : decode cX9_findsFor 7 = .ok (.iload_n 3, 1) := by decide +kernel
theorem dX9_findsFor_8 : decode cX9_findsFor 8 = .ok (.iload 4, 2) := by decide +kernel
theorem dX9_findsFor_10 : decode cX9_findsFor 10 = .ok (.invokevirtual 253, 3) := by decide +kernel
theorem dX9_findsFor_13 : decode cX9_findsFor 13 = .ok (.ireturn, 1) := by decide +kernel
theorem dX9_lights_0 : decode cX9_lights 0 = .ok (.aload_n 0, 1) := by decide +kernel
theorem dX9_lights_1 : decode cX9_lights 1 = .ok (.iload_n 1, 1) := by decide +kernel
theorem dX9_lights_2 : decode cX9_lights 2 = .ok (.iconst 3, 1) := by decide +kernel
theorem dX9_lights_3 : decode cX9_lights 3 = .ok (.iconst 0, 1) := by decide +kernel
theorem dX9_lights_4 : decode cX9_lights 4 = .ok (.invokevirtual 256, 3) := by decide +kernel
theorem dX9_lights_7 : decode cX9_lights 7 = .ok (.aload_n 0, 1) := by decide +kernel
theorem dX9_lights_8 : decode cX9_lights 8 = .ok (.iload_n 1, 1) := by decide +kernel
theorem dX9_lights_9 : decode cX9_lights 9 = .ok (.iconst 4, 1) := by decide +kernel
theorem dX9_lights_10 : decode cX9_lights 10 = .ok (.aload_n 0, 1) := by decide +kernel
theorem dX9_lights_11 : decode cX9_lights 11 = .ok (.getfield 247, 3) := by decide +kernel
theorem dX9_lights_14 : decode cX9_lights 14 = .ok (.invokevirtual 256, 3) := by decide +kernel
theorem dX9_lights_17 : decode cX9_lights 17 = .ok (.aload_n 0, 1) := by decide +kernel
theorem dX9_lights_18 : decode cX9_lights 18 = .ok (.iload_n 1, 1) := by decide +kernel
theorem dX9_lights_19 : decode cX9_lights 19 = .ok (.iconst 5, 1) := by decide +kernel
theorem dX9_lights_20 : decode cX9_lights 20 = .ok (.aload_n 0, 1) := by decide +kernel
theorem dX9_lights_21 : decode cX9_lights 21 = .ok (.getfield 250, 3) := by decide +kernel
theorem dX9_lights_24 : decode cX9_lights 24 = .ok (.invokevirtual 256, 3) := by decide +kernel
theorem dX9_lights_27 : decode cX9_lights 27 = .ok (.aload_n 0, 1) := by decide +kernel
theorem dX9_lights_28 : decode cX9_lights 28 = .ok (.iload_n 1, 1) := by decide +kernel
theorem dX9_lights_29 : decode cX9_lights 29 = .ok (.bipush 6, 2) := by decide +kernel
theorem dX9_lights_31 : decode cX9_lights 31 = .ok (.aload_n 0, 1) := by decide +kernel
theorem dX9_lights_32 : decode cX9_lights 32 = .ok (.getfield 23, 3) := by decide +kernel
theorem dX9_lights_35 : decode cX9_lights 35 = .ok (.aload_n 0, 1) := by decide +kernel
theorem dX9_lights_36 : decode cX9_lights 36 = .ok (.getfield 233, 3) := by decide +kernel
theorem dX9_lights_39 : decode cX9_lights 39 = .ok (.iaload, 1) := by decide +kernel
theorem dX9_lights_40 : decode cX9_lights 40 = .ok (.invokevirtual 256, 3) := by decide +kernel
theorem dX9_lights_43 : decode cX9_lights 43 = .ok (.return_, 1) := by decide +kernel
theorem dX9_comes_0 : decode cX9_comes 0 = .ok (.aload_n 0, 1) := by decide +kernel
theorem dX9_comes_1 : decode cX9_comes 1 = .ok (.getfield 7, 3) := by decide +kernel
theorem dX9_comes_4 : decode cX9_comes 4 = .ok (.bipush 7, 2) := by decide +kernel
theorem dX9_comes_6 : decode cX9_comes 6 = .ok (.iaload, 1) := by decide +kernel
theorem dX9_comes_7 : decode cX9_comes 7 = .ok (.istore 5, 2) := by decide +kernel
theorem dX9_comes_9 : decode cX9_comes 9 = .ok (.aload_n 0, 1) := by decide +kernel
theorem dX9_comes_10 : decode cX9_comes 10 = .ok (.getfield 7, 3) := by decide +kernel
theorem dX9_comes_13 : decode cX9_comes 13 = .ok (.bipush 7, 2) := by decide +kernel
theorem dX9_comes_15 : decode cX9_comes 15 = .ok (.iload 5, 2) := by decide +kernel
theorem dX9_comes_17 : decode cX9_comes 17 = .ok (.iconst 1, 1) := by decide +kernel
theorem dX9_comes_18 : decode cX9_comes 18 = .ok (.iadd, 1) := by decide +kernel
theorem dX9_comes_19 : decode cX9_comes 19 = .ok (.iastore, 1) := by decide +kernel
theorem dX9_comes_20 : decode cX9_comes 20 = .ok (.iconst 0, 1) := by decide +kernel
theorem dX9_comes_21 : decode cX9_comes 21 = .ok (.istore 6, 2) := by decide +kernel
theorem dX9_comes_23 : decode cX9_comes 23 = .ok (.iload 6, 2) := by decide +kernel
theorem dX9_comes_25 : decode cX9_comes 25 = .ok (.bipush 10, 2) := by decide +kernel
theorem dX9_comes_27 : decode cX9_comes 27 = .ok (.if_icmp .ge 18, 3) := by decide +kernel
theorem dX9_comes_30 : decode cX9_comes 30 = .ok (.aload_n 0, 1) := by decide +kernel
theorem dX9_comes_31 : decode cX9_comes 31 = .ok (.iload 5, 2) := by decide +kernel
theorem dX9_comes_33 : decode cX9_comes 33 = .ok (.iload 6, 2) := by decide +kernel
theorem dX9_comes_35 : decode cX9_comes 35 = .ok (.iconst 0, 1) := by decide +kernel
theorem dX9_comes_36 : decode cX9_comes 36 = .ok (.invokevirtual 256, 3) := by decide +kernel
theorem dX9_comes_39 : decode cX9_comes 39 = .ok (.iinc 6 1, 3) := by decide +kernel
theorem dX9_comes_42 : decode cX9_comes 42 = .ok (.goto (-19), 3) := by decide +kernel
theorem dX9_comes_45 : decode cX9_comes 45 = .ok (.aload_n 0, 1) := by decide +kernel
theorem dX9_comes_46 : decode cX9_comes 46 = .ok (.iload 5, 2) := by decide +kernel
theorem dX9_comes_48 : decode cX9_comes 48 = .ok (.iconst 0, 1) := by decide +kernel
theorem dX9_comes_49 : decode cX9_comes 49 = .ok (.iload_n 1, 1) := by decide +kernel
theorem dX9_comes_50 : decode cX9_comes 50 = .ok (.invokevirtual 256, 3) := by decide +kernel
theorem dX9_comes_53 : decode cX9_comes 53 = .ok (.aload_n 0, 1) := by decide +kernel
theorem dX9_comes_54 : decode cX9_comes 54 = .ok (.iload 5, 2) := by decide +kernel
theorem dX9_comes_56 : decode cX9_comes 56 = .ok (.iconst 1, 1) := by decide +kernel
theorem dX9_comes_57 : decode cX9_comes 57 = .ok (.iload_n 2, 1) := by decide +kernel
theorem dX9_comes_58 : decode cX9_comes 58 = .ok (.invokevirtual 256, 3) := by decide +kernel
theorem dX9_comes_61 : decode cX9_comes 61 = .ok (.aload_n 0, 1) := by decide +kernel
theorem dX9_comes_62 : decode cX9_comes 62 = .ok (.iload 5, 2) := by decide +kernel
theorem dX9_comes_64 : decode cX9_comes 64 = .ok (.iconst 2, 1) := by decide +kernel
theorem dX9_comes_65 : decode cX9_comes 65 = .ok (.iload_n 3, 1) := by decide +kernel
theorem dX9_comes_66 : decode cX9_comes 66 = .ok (.invokevirtual 256, 3) := by decide +kernel
theorem dX9_comes_69 : decode cX9_comes 69 = .ok (.aload_n 0, 1) := by decide +kernel
theorem dX9_comes_70 : decode cX9_comes 70 = .ok (.iload 5, 2) := by decide +kernel
theorem dX9_comes_72 : decode cX9_comes 72 = .ok (.iconst 3, 1) := by decide +kernel
theorem dX9_comes_73 : decode cX9_comes 73 = .ok (.iconst 1, 1) := by decide +kernel
theorem dX9_comes_74 : decode cX9_comes 74 = .ok (.invokevirtual 256, 3) := by decide +kernel
theorem dX9_comes_77 : decode cX9_comes 77 = .ok (.aload_n 0, 1) := by decide +kernel
theorem dX9_comes_78 : decode cX9_comes 78 = .ok (.iload 5, 2) := by decide +kernel
theorem dX9_comes_80 : decode cX9_comes 80 = .ok (.bipush 7, 2) := by decide +kernel
theorem dX9_comes_82 : decode cX9_comes 82 = .ok (.iconst (-1), 1) := by decide +kernel
theorem dX9_comes_83 : decode cX9_comes 83 = .ok (.invokevirtual 256, 3) := by decide +kernel
theorem dX9_comes_86 : decode cX9_comes 86 = .ok (.iload 4, 2) := by decide +kernel
theorem dX9_comes_88 : decode cX9_comes 88 = .ok (.ifCond .eq 9, 3) := by decide +kernel
theorem dX9_comes_91 : decode cX9_comes 91 = .ok (.aload_n 0, 1) := by decide +kernel
theorem dX9_comes_92 : decode cX9_comes 92 = .ok (.iload 5, 2) := by decide +kernel
theorem dX9_comes_94 : decode cX9_comes 94 = .ok (.invokevirtual 259, 3) := by decide +kernel
theorem dX9_comes_97 : decode cX9_comes 97 = .ok (.iload 5, 2) := by decide +kernel
theorem dX9_comes_99 : decode cX9_comes 99 = .ok (.ireturn, 1) := by decide +kernel
theorem dX9_isAsked_0 : decode cX9_isAsked 0 = .ok (.aload_n 0, 1) := by decide +kernel
theorem dX9_isAsked_1 : decode cX9_isAsked 1 = .ok (.iload_n 1, 1) := by decide +kernel
theorem dX9_isAsked_2 : decode cX9_isAsked 2 = .ok (.iload_n 2, 1) := by decide +kernel
theorem dX9_isAsked_3 : decode cX9_isAsked 3 = .ok (.invokevirtual 212, 3) := by decide +kernel
theorem dX9_isAsked_6 : decode cX9_isAsked 6 = .ok (.ifCond .eq 22, 3) := by decide +kernel
theorem dX9_isAsked_9 : decode cX9_isAsked 9 = .ok (.iload_n 3, 1) := by decide +kernel
theorem dX9_isAsked_10 : decode cX9_isAsked 10 = .ok (.invokestatic 262, 3) := by decide +kernel
theorem dX9_isAsked_13 : decode cX9_isAsked 13 = .ok (.ifCond .eq 15, 3) := by decide +kernel
theorem dX9_isAsked_16 : decode cX9_isAsked 16 = .ok (.iload 4, 2) := by decide +kernel
theorem dX9_isAsked_18 : decode cX9_isAsked 18 = .ok (.invokestatic 265, 3) := by decide +kernel
theorem dX9_isAsked_21 : decode cX9_isAsked 21 = .ok (.ifCond .eq 7, 3) := by decide +kernel
theorem dX9_isAsked_24 : decode cX9_isAsked 24 = .ok (.iconst 1, 1) := by decide +kernel
theorem dX9_isAsked_25 : decode cX9_isAsked 25 = .ok (.goto 4, 3) := by decide +kernel
theorem dX9_isAsked_28 : decode cX9_isAsked 28 = .ok (.iconst 0, 1) := by decide +kernel
theorem dX9_isAsked_29 : decode cX9_isAsked 29 = .ok (.ireturn, 1) := by decide +kernel
theorem dX9_ask_0 : decode cX9_ask 0 = .ok (.aload_n 0, 1) := by decide +kernel
theorem dX9_ask_1 : decode cX9_ask 1 = .ok (.iload_n 1, 1) := by decide +kernel
theorem dX9_ask_2 : decode cX9_ask 2 = .ok (.iload_n 2, 1) := by decide +kernel
theorem dX9_ask_3 : decode cX9_ask 3 = .ok (.iload_n 3, 1) := by decide +kernel
theorem dX9_ask_4 : decode cX9_ask 4 = .ok (.iload 4, 2) := by decide +kernel
theorem dX9_ask_6 : decode cX9_ask 6 = .ok (.invokevirtual 268, 3) := by decide +kernel
theorem dX9_ask_9 : decode cX9_ask 9 = .ok (.ifCond .ne 5, 3) := by decide +kernel
theorem dX9_ask_12 : decode cX9_ask 12 = .ok (.iconst (-1), 1) := by decide +kernel
theorem dX9_ask_13 : decode cX9_ask 13 = .ok (.ireturn, 1) := by decide +kernel
theorem dX9_ask_14 : decode cX9_ask 14 = .ok (.aload_n 0, 1) := by decide +kernel
theorem dX9_ask_15 : decode cX9_ask 15 = .ok (.getfield 7, 3) := by decide +kernel
theorem dX9_ask_18 : decode cX9_ask 18 = .ok (.bipush 7, 2) := by decide +kernel
theorem dX9_ask_20 : decode cX9_ask 20 = .ok (.iaload, 1) := by decide +kernel
theorem dX9_ask_21 : decode cX9_ask 21 = .ok (.bipush 40, 2) := by decide +kernel
theorem dX9_ask_23 : decode cX9_ask 23 = .ok (.if_icmp .ne 6, 3) := by decide +kernel
theorem dX9_ask_26 : decode cX9_ask 26 = .ok (.bipush (-3), 2) := by decide +kernel
theorem dX9_ask_28 : decode cX9_ask 28 = .ok (.ireturn, 1) := by decide +kernel
theorem dX9_ask_29 : decode cX9_ask 29 = .ok (.aload_n 0, 1) := by decide +kernel
theorem dX9_ask_30 : decode cX9_ask 30 = .ok (.iload_n 1, 1) := by decide +kernel
theorem dX9_ask_31 : decode cX9_ask 31 = .ok (.iload_n 2, 1) := by decide +kernel
theorem dX9_ask_32 : decode cX9_ask 32 = .ok (.iload_n 3, 1) := by decide +kernel
theorem dX9_ask_33 : decode cX9_ask 33 = .ok (.iload 4, 2) := by decide +kernel
theorem dX9_ask_35 : decode cX9_ask 35 = .ok (.invokevirtual 271, 3) := by decide +kernel
theorem dX9_ask_38 : decode cX9_ask 38 = .ok (.istore 5, 2) := by decide +kernel
theorem dX9_ask_40 : decode cX9_ask 40 = .ok (.aload_n 0, 1) := by decide +kernel
theorem dX9_ask_41 : decode cX9_ask 41 = .ok (.iload_n 1, 1) := by decide +kernel
theorem dX9_ask_42 : decode cX9_ask 42 = .ok (.iload_n 2, 1) := by decide +kernel
theorem dX9_ask_43 : decode cX9_ask 43 = .ok (.iload_n 3, 1) := by decide +kernel
theorem dX9_ask_44 : decode cX9_ask 44 = .ok (.iload 5, 2) := by decide +kernel
theorem dX9_ask_46 : decode cX9_ask 46 = .ok (.invokevirtual 274, 3) := by decide +kernel
theorem dX9_ask_49 : decode cX9_ask 49 = .ok (.istore 6, 2) := by decide +kernel
theorem dX9_ask_51 : decode cX9_ask 51 = .ok (.iload 5, 2) := by decide +kernel
theorem dX9_ask_53 : decode cX9_ask 53 = .ok (.ifCond .eq 8, 3) := by decide +kernel
theorem dX9_ask_56 : decode cX9_ask 56 = .ok (.iload 6, 2) := by decide +kernel
theorem dX9_ask_58 : decode cX9_ask 58 = .ok (.goto 5, 3) := by decide +kernel
theorem dX9_ask_61 : decode cX9_ask 61 = .ok (.bipush (-2), 2) := by decide +kernel
theorem dX9_ask_63 : decode cX9_ask 63 = .ok (.ireturn, 1) := by decide +kernel
theorem dX9_found_0 : decode cX9_found 0 = .ok (.aload_n 0, 1) := by decide +kernel
theorem dX9_found_1 : decode cX9_found 1 = .ok (.iload_n 1, 1) := by decide +kernel
theorem dX9_found_2 : decode cX9_found 2 = .ok (.iload_n 2, 1) := by decide +kernel
theorem dX9_found_3 : decode cX9_found 3 = .ok (.iload_n 3, 1) := by decide +kernel
theorem dX9_found_4 : decode cX9_found 4 = .ok (.iload 4, 2) := by decide +kernel
theorem dX9_found_6 : decode cX9_found 6 = .ok (.invokevirtual 268, 3) := by decide +kernel
theorem dX9_found_9 : decode cX9_found 9 = .ok (.ifCond .eq 13, 3) := by decide +kernel
theorem dX9_found_12 : decode cX9_found 12 = .ok (.iload 5, 2) := by decide +kernel
theorem dX9_found_14 : decode cX9_found 14 = .ok (.iconst 0, 1) := by decide +kernel
theorem dX9_found_15 : decode cX9_found 15 = .ok (.iconst 2, 1) := by decide +kernel
theorem dX9_found_16 : decode cX9_found 16 = .ok (.invokestatic 83, 3) := by decide +kernel
theorem dX9_found_19 : decode cX9_found 19 = .ok (.ifCond .ne 5, 3) := by decide +kernel
theorem dX9_found_22 : decode cX9_found 22 = .ok (.iconst (-1), 1) := by decide +kernel
theorem dX9_found_23 : decode cX9_found 23 = .ok (.ireturn, 1) := by decide +kernel
theorem dX9_found_24 : decode cX9_found 24 = .ok (.aload_n 0, 1) := by decide +kernel
theorem dX9_found_25 : decode cX9_found 25 = .ok (.iload_n 1, 1) := by decide +kernel
theorem dX9_found_26 : decode cX9_found 26 = .ok (.iload_n 2, 1) := by decide +kernel
theorem dX9_found_27 : decode cX9_found 27 = .ok (.iload_n 3, 1) := by decide +kernel
theorem dX9_found_28 : decode cX9_found 28 = .ok (.iload 4, 2) := by decide +kernel
theorem dX9_found_30 : decode cX9_found 30 = .ok (.invokevirtual 271, 3) := by decide +kernel
theorem dX9_found_33 : decode cX9_found 33 = .ok (.ifCond .ne 6, 3) := by decide +kernel
theorem dX9_found_36 : decode cX9_found 36 = .ok (.bipush (-2), 2) := by decide +kernel
theorem dX9_found_38 : decode cX9_found 38 = .ok (.ireturn, 1) := by decide +kernel
theorem dX9_found_39 : decode cX9_found 39 = .ok (.iload 5, 2) := by decide +kernel
theorem dX9_found_41 : decode cX9_found 41 = .ok (.ifCond .ne 10, 3) := by decide +kernel
theorem dX9_found_44 : decode cX9_found 44 = .ok (.aload_n 0, 1) := by decide +kernel
theorem dX9_found_45 : decode cX9_found 45 = .ok (.getfield 233, 3) := by decide +kernel
theorem dX9_found_48 : decode cX9_found 48 = .ok (.goto 20, 3) := by decide +kernel
theorem dX9_found_51 : decode cX9_found 51 = .ok (.iload 5, 2) := by decide +kernel
theorem dX9_found_53 : decode cX9_found 53 = .ok (.iconst 1, 1) := by decide +kernel
theorem dX9_found_54 : decode cX9_found 54 = .ok (.if_icmp .ne 10, 3) := by decide +kernel
theorem dX9_found_57 : decode cX9_found 57 = .ok (.aload_n 0, 1) := by decide +kernel
theorem dX9_found_58 : decode cX9_found 58 = .ok (.getfield 247, 3) := by decide +kernel
theorem dX9_found_61 : decode cX9_found 61 = .ok (.goto 7, 3) := by decide +kernel
theorem dX9_found_64 : decode cX9_found 64 = .ok (.aload_n 0, 1) := by decide +kernel
theorem dX9_found_65 : decode cX9_found 65 = .ok (.getfield 250, 3) := by decide +kernel
theorem dX9_found_68 : decode cX9_found 68 = .ok (.ireturn, 1) := by decide +kernel
theorem dX9_witness_0 : decode cX9_witness 0 = .ok (.aload_n 0, 1) := by decide +kernel
theorem dX9_witness_1 : decode cX9_witness 1 = .ok (.iload_n 1, 1) := by decide +kernel
theorem dX9_witness_2 : decode cX9_witness 2 = .ok (.iload_n 2, 1) := by decide +kernel
theorem dX9_witness_3 : decode cX9_witness 3 = .ok (.invokevirtual 212, 3) := by decide +kernel
theorem dX9_witness_6 : decode cX9_witness 6 = .ok (.ifCond .eq 37, 3) := by decide +kernel
theorem dX9_witness_9 : decode cX9_witness 9 = .ok (.iload_n 3, 1) := by decide +kernel
theorem dX9_witness_10 : decode cX9_witness 10 = .ok (.invokestatic 262, 3) := by decide +kernel
theorem dX9_witness_13 : decode cX9_witness 13 = .ok (.ifCond .eq 30, 3) := by decide +kernel
theorem dX9_witness_16 : decode cX9_witness 16 = .ok (.iload 4, 2) := by decide +kernel
theorem dX9_witness_18 : decode cX9_witness 18 = .ok (.iconst 0, 1) := by decide +kernel
theorem dX9_witness_19 : decode cX9_witness 19 = .ok (.iconst 3, 1) := by decide +kernel
theorem dX9_witness_20 : decode cX9_witness 20 = .ok (.invokestatic 83, 3) := by decide +kernel
theorem dX9_witness_23 : decode cX9_witness 23 = .ok (.ifCond .eq 20, 3) := by decide +kernel
theorem dX9_witness_26 : decode cX9_witness 26 = .ok (.iload 5, 2) := by decide +kernel
theorem dX9_witness_28 : decode cX9_witness 28 = .ok (.iconst 0, 1) := by decide +kernel
theorem dX9_witness_29 : decode cX9_witness 29 = .ok (.aload_n 0, 1) := by decide +kernel
theorem dX9_witness_30 : decode cX9_witness 30 = .ok (.getfield 7, 3) := by decide +kernel
theorem dX9_witness_33 : decode cX9_witness 33 = .ok (.iconst 1, 1) := by decide +kernel
theorem dX9_witness_34 : decode cX9_witness 34 = .ok (.iaload, 1) := by decide +kernel
theorem dX9_witness_35 : decode cX9_witness 35 = .ok (.iconst 1, 1) := by decide +kernel
theorem dX9_witness_36 : decode cX9_witness 36 = .ok (.isub, 1) := by decide +kernel
theorem dX9_witness_37 : decode cX9_witness 37 = .ok (.invokestatic 83, 3) := by decide +kernel
theorem dX9_witness_40 : decode cX9_witness 40 = .ok (.ifCond .ne 5, 3) := by decide +kernel
theorem dX9_witness_43 : decode cX9_witness 43 = .ok (.iconst (-1), 1) := by decide +kernel
theorem dX9_witness_44 : decode cX9_witness 44 = .ok (.ireturn, 1) := by decide +kernel
theorem dX9_witness_45 : decode cX9_witness 45 = .ok (.aload_n 0, 1) := by decide +kernel
theorem dX9_witness_46 : decode cX9_witness 46 = .ok (.iload_n 1, 1) := by decide +kernel
theorem dX9_witness_47 : decode cX9_witness 47 = .ok (.iload_n 2, 1) := by decide +kernel
theorem dX9_witness_48 : decode cX9_witness 48 = .ok (.invokevirtual 215, 3) := by decide +kernel
theorem dX9_witness_51 : decode cX9_witness 51 = .ok (.iload 4, 2) := by decide +kernel
theorem dX9_witness_53 : decode cX9_witness 53 = .ok (.aload_n 0, 1) := by decide +kernel
theorem dX9_witness_54 : decode cX9_witness 54 = .ok (.getfield 192, 3) := by decide +kernel
theorem dX9_witness_57 : decode cX9_witness 57 = .ok (.if_icmp .ge 14, 3) := by decide +kernel
theorem dX9_witness_60 : decode cX9_witness 60 = .ok (.aload_n 0, 1) := by decide +kernel
theorem dX9_witness_61 : decode cX9_witness 61 = .ok (.iload 4, 2) := by decide +kernel
theorem dX9_witness_63 : decode cX9_witness 63 = .ok (.iload_n 3, 1) := by decide +kernel
theorem dX9_witness_64 : decode cX9_witness 64 = .ok (.invokevirtual 237, 3) := by decide +kernel
theorem dX9_witness_67 : decode cX9_witness 67 = .ok (.iconst (-1), 1) := by decide +kernel
theorem dX9_witness_68 : decode cX9_witness 68 = .ok (.if_icmp .ne 6, 3) := by decide +kernel
theorem dX9_witness_71 : decode cX9_witness 71 = .ok (.bipush (-4), 2) := by decide +kernel
theorem dX9_witness_73 : decode cX9_witness 73 = .ok (.ireturn, 1) := by decide +kernel
theorem dX9_witness_74 : decode cX9_witness 74 = .ok (.aload_n 0, 1) := by decide +kernel
theorem dX9_witness_75 : decode cX9_witness 75 = .ok (.iload 4, 2) := by decide +kernel
theorem dX9_witness_77 : decode cX9_witness 77 = .ok (.iload_n 3, 1) := by decide +kernel
theorem dX9_witness_78 : decode cX9_witness 78 = .ok (.invokevirtual 237, 3) := by decide +kernel
theorem dX9_witness_81 : decode cX9_witness 81 = .ok (.istore 6, 2) := by decide +kernel
theorem dX9_witness_83 : decode cX9_witness 83 = .ok (.iload 5, 2) := by decide +kernel
theorem dX9_witness_85 : decode cX9_witness 85 = .ok (.iload 6, 2) := by decide +kernel
theorem dX9_witness_87 : decode cX9_witness 87 = .ok (.iadd, 1) := by decide +kernel
theorem dX9_witness_88 : decode cX9_witness 88 = .ok (.aload_n 0, 1) := by decide +kernel
theorem dX9_witness_89 : decode cX9_witness 89 = .ok (.getfield 7, 3) := by decide +kernel
theorem dX9_witness_92 : decode cX9_witness 92 = .ok (.iconst 1, 1) := by decide +kernel
theorem dX9_witness_93 : decode cX9_witness 93 = .ok (.iaload, 1) := by decide +kernel
theorem dX9_witness_94 : decode cX9_witness 94 = .ok (.if_icmp .le 6, 3) := by decide +kernel
theorem dX9_witness_97 : decode cX9_witness 97 = .ok (.bipush (-3), 2) := by decide +kernel
theorem dX9_witness_99 : decode cX9_witness 99 = .ok (.ireturn, 1) := by decide +kernel
theorem dX9_witness_100 : decode cX9_witness 100 = .ok (.aload_n 0, 1) := by decide +kernel
theorem dX9_witness_101 : decode cX9_witness 101 = .ok (.aload_n 0, 1) := by decide +kernel
theorem dX9_witness_102 : decode cX9_witness 102 = .ok (.getfield 23, 3) := by decide +kernel
theorem dX9_witness_105 : decode cX9_witness 105 = .ok (.iload 4, 2) := by decide +kernel
theorem dX9_witness_107 : decode cX9_witness 107 = .ok (.iaload, 1) := by decide +kernel
theorem dX9_witness_108 : decode cX9_witness 108 = .ok (.iload 5, 2) := by decide +kernel
theorem dX9_witness_110 : decode cX9_witness 110 = .ok (.iload 6, 2) := by decide +kernel
theorem dX9_witness_112 : decode cX9_witness 112 = .ok (.iconst (-1), 1) := by decide +kernel
theorem dX9_witness_113 : decode cX9_witness 113 = .ok (.invokevirtual 226, 3) := by decide +kernel
theorem dX9_witness_116 : decode cX9_witness 116 = .ok (.istore 7, 2) := by decide +kernel
theorem dX9_witness_118 : decode cX9_witness 118 = .ok (.iload 7, 2) := by decide +kernel
theorem dX9_witness_120 : decode cX9_witness 120 = .ok (.iconst (-1), 1) := by decide +kernel
theorem dX9_witness_121 : decode cX9_witness 121 = .ok (.if_icmp .ne 8, 3) := by decide +kernel
theorem dX9_witness_124 : decode cX9_witness 124 = .ok (.bipush (-2), 2) := by decide +kernel
theorem dX9_witness_126 : decode cX9_witness 126 = .ok (.goto 5, 3) := by decide +kernel
theorem dX9_witness_129 : decode cX9_witness 129 = .ok (.iload 7, 2) := by decide +kernel
theorem dX9_witness_131 : decode cX9_witness 131 = .ok (.ireturn, 1) := by decide +kernel
theorem dX9_witnesses_0 : decode cX9_witnesses 0 = .ok (.lconst 0, 1) := by decide +kernel
theorem dX9_witnesses_1 : decode cX9_witnesses 1 = .ok (.lstore_n 2, 1) := by decide +kernel
theorem dX9_witnesses_2 : decode cX9_witnesses 2 = .ok (.iconst 0, 1) := by decide +kernel
theorem dX9_witnesses_3 : decode cX9_witnesses 3 = .ok (.istore 4, 2) := by decide +kernel
theorem dX9_witnesses_5 : decode cX9_witnesses 5 = .ok (.iload 4, 2) := by decide +kernel
theorem dX9_witnesses_7 : decode cX9_witnesses 7 = .ok (.aload_n 0, 1) := by decide +kernel
theorem dX9_witnesses_8 : decode cX9_witnesses 8 = .ok (.getfield 192, 3) := by decide +kernel
theorem dX9_witnesses_11 : decode cX9_witnesses 11 = .ok (.if_icmp .ge 78, 3) := by decide +kernel
theorem dX9_witnesses_14 : decode cX9_witnesses 14 = .ok (.aload_n 0, 1) := by decide +kernel
theorem dX9_witnesses_15 : decode cX9_witnesses 15 = .ok (.iload 4, 2) := by decide +kernel
theorem dX9_witnesses_17 : decode cX9_witnesses 17 = .ok (.iload_n 1, 1) := by decide +kernel
theorem dX9_witnesses_18 : decode cX9_witnesses 18 = .ok (.invokevirtual 237, 3) := by decide +kernel
theorem dX9_witnesses_21 : decode cX9_witnesses 21 = .ok (.istore 5, 2) := by decide +kernel
theorem dX9_witnesses_23 : decode cX9_witnesses 23 = .ok (.iconst 0, 1) := by decide +kernel
theorem dX9_witnesses_24 : decode cX9_witnesses 24 = .ok (.istore 6, 2) := by decide +kernel
theorem dX9_witnesses_26 : decode cX9_witnesses 26 = .ok (.iload 5, 2) := by decide +kernel
theorem dX9_witnesses_28 : decode cX9_witnesses 28 = .ok (.iconst (-1), 1) := by decide +kernel
theorem dX9_witnesses_29 : decode cX9_witnesses 29 = .ok (.if_icmp .eq 54, 3) := by decide +kernel
theorem dX9_witnesses_32 : decode cX9_witnesses 32 = .ok (.iload 6, 2) := by decide +kernel
theorem dX9_witnesses_34 : decode cX9_witnesses 34 = .ok (.iload 5, 2) := by decide +kernel
theorem dX9_witnesses_36 : decode cX9_witnesses 36 = .ok (.iadd, 1) := by decide +kernel
theorem dX9_witnesses_37 : decode cX9_witnesses 37 = .ok (.aload_n 0, 1) := by decide +kernel
theorem dX9_witnesses_38 : decode cX9_witnesses 38 = .ok (.getfield 7, 3) := by decide +kernel
theorem dX9_witnesses_41 : decode cX9_witnesses 41 = .ok (.iconst 1, 1) := by decide +kernel
theorem dX9_witnesses_42 : decode cX9_witnesses 42 = .ok (.iaload, 1) := by decide +kernel
theorem dX9_witnesses_43 : decode cX9_witnesses 43 = .ok (.if_icmp .gt 40, 3) := by decide +kernel
theorem dX9_witnesses_46 : decode cX9_witnesses 46 = .ok (.aload_n 0, 1) := by decide +kernel
theorem dX9_witnesses_47 : decode cX9_witnesses 47 = .ok (.aload_n 0, 1) := by decide +kernel
theorem dX9_witnesses_48 : decode cX9_witnesses 48 = .ok (.getfield 23, 3) := by decide +kernel
theorem dX9_witnesses_51 : decode cX9_witnesses 51 = .ok (.iload 4, 2) := by decide +kernel
theorem dX9_witnesses_53 : decode cX9_witnesses 53 = .ok (.iaload, 1) := by decide +kernel
theorem dX9_witnesses_54 : decode cX9_witnesses 54 = .ok (.iload 6, 2) := by decide +kernel
theorem dX9_witnesses_56 : decode cX9_witnesses 56 = .ok (.iload 5, 2) := by decide +kernel
theorem dX9_witnesses_58 : decode cX9_witnesses 58 = .ok (.iconst (-1), 1) := by decide +kernel
theorem dX9_witnesses_59 : decode cX9_witnesses 59 = .ok (.invokevirtual 226, 3) := by decide +kernel
theorem dX9_witnesses_62 : decode cX9_witnesses 62 = .ok (.istore 7, 2) := by decide +kernel
theorem dX9_witnesses_64 : decode cX9_witnesses 64 = .ok (.iload 7, 2) := by decide +kernel
theorem dX9_witnesses_66 : decode cX9_witnesses 66 = .ok (.iconst (-1), 1) := by decide +kernel
theorem dX9_witnesses_67 : decode cX9_witnesses 67 = .ok (.if_icmp .eq 10, 3) := by decide +kernel
theorem dX9_witnesses_70 : decode cX9_witnesses 70 = .ok (.lload_n 2, 1) := by decide +kernel
theorem dX9_witnesses_71 : decode cX9_witnesses 71 = .ok (.lconst 1, 1) := by decide +kernel
theorem dX9_witnesses_72 : decode cX9_witnesses 72 = .ok (.iload 7, 2) := by decide +kernel
theorem dX9_witnesses_74 : decode cX9_witnesses 74 = .ok (.lshl, 1) := by decide +kernel
theorem dX9_witnesses_75 : decode cX9_witnesses 75 = .ok (.lor, 1) := by decide +kernel
theorem dX9_witnesses_76 : decode cX9_witnesses 76 = .ok (.lstore_n 2, 1) := by decide +kernel
theorem dX9_witnesses_77 : decode cX9_witnesses 77 = .ok (.iinc 6 1, 3) := by decide +kernel
theorem dX9_witnesses_80 : decode cX9_witnesses 80 = .ok (.goto (-54), 3) := by decide +kernel
theorem dX9_witnesses_83 : decode cX9_witnesses 83 = .ok (.iinc 4 1, 3) := by decide +kernel
theorem dX9_witnesses_86 : decode cX9_witnesses 86 = .ok (.goto (-81), 3) := by decide +kernel
theorem dX9_witnesses_89 : decode cX9_witnesses 89 = .ok (.iconst 0, 1) := by decide +kernel
theorem dX9_witnesses_90 : decode cX9_witnesses 90 = .ok (.istore 4, 2) := by decide +kernel
theorem dX9_witnesses_92 : decode cX9_witnesses 92 = .ok (.lload_n 2, 1) := by decide +kernel
theorem dX9_witnesses_93 : decode cX9_witnesses 93 = .ok (.lstore 5, 2) := by decide +kernel
theorem dX9_witnesses_95 : decode cX9_witnesses 95 = .ok (.lload 5, 2) := by decide +kernel
theorem dX9_witnesses_97 : decode cX9_witnesses 97 = .ok (.lconst 0, 1) := by decide +kernel
theorem dX9_witnesses_98 : decode cX9_witnesses 98 = .ok (.lcmp, 1) := by decide +kernel
theorem dX9_witnesses_99 : decode cX9_witnesses 99 = .ok (.ifCond .eq 21, 3) := by decide +kernel
theorem dX9_witnesses_102 : decode cX9_witnesses 102 = .ok (.iload 4, 2) := by decide +kernel
theorem dX9_witnesses_104 : decode cX9_witnesses 104 = .ok (.iconst 1, 1) := by decide +kernel
theorem dX9_witnesses_105 : decode cX9_witnesses 105 = .ok (.iadd, 1) := by decide +kernel
theorem dX9_witnesses_106 : decode cX9_witnesses 106 = .ok (.istore 4, 2) := by decide +kernel
theorem dX9_witnesses_108 : decode cX9_witnesses 108 = .ok (.lload 5, 2) := by decide +kernel
theorem dX9_witnesses_110 : decode cX9_witnesses 110 = .ok (.lload 5, 2) := by decide +kernel
theorem dX9_witnesses_112 : decode cX9_witnesses 112 = .ok (.lconst 1, 1) := by decide +kernel
theorem dX9_witnesses_113 : decode cX9_witnesses 113 = .ok (.lsub, 1) := by decide +kernel
theorem dX9_witnesses_114 : decode cX9_witnesses 114 = .ok (.land, 1) := by decide +kernel
theorem dX9_witnesses_115 : decode cX9_witnesses 115 = .ok (.lstore 5, 2) := by decide +kernel
theorem dX9_witnesses_117 : decode cX9_witnesses 117 = .ok (.goto (-22), 3) := by decide +kernel
theorem dX9_witnesses_120 : decode cX9_witnesses 120 = .ok (.iload 4, 2) := by decide +kernel
theorem dX9_witnesses_122 : decode cX9_witnesses 122 = .ok (.ireturn, 1) := by decide +kernel
theorem dX9_blocked_0 : decode cX9_blocked 0 = .ok (.aload_n 0, 1) := by decide +kernel
theorem dX9_blocked_1 : decode cX9_blocked 1 = .ok (.iload_n 1, 1) := by decide +kernel
theorem dX9_blocked_2 : decode cX9_blocked 2 = .ok (.iload_n 2, 1) := by decide +kernel
theorem dX9_blocked_3 : decode cX9_blocked 3 = .ok (.invokevirtual 212, 3) := by decide +kernel
theorem dX9_blocked_6 : decode cX9_blocked 6 = .ok (.ifCond .eq 20, 3) := by decide +kernel
theorem dX9_blocked_9 : decode cX9_blocked 9 = .ok (.iload_n 3, 1) := by decide +kernel
theorem dX9_blocked_10 : decode cX9_blocked 10 = .ok (.invokestatic 262, 3) := by decide +kernel
theorem dX9_blocked_13 : decode cX9_blocked 13 = .ok (.ifCond .eq 13, 3) := by decide +kernel
theorem dX9_blocked_16 : decode cX9_blocked 16 = .ok (.iload 4, 2) := by decide +kernel
theorem dX9_blocked_18 : decode cX9_blocked 18 = .ok (.iconst 0, 1) := by decide +kernel
theorem dX9_blocked_19 : decode cX9_blocked 19 = .ok (.iconst 2, 1) := by decide +kernel
theorem dX9_blocked_20 : decode cX9_blocked 20 = .ok (.invokestatic 83, 3) := by decide +kernel
theorem dX9_blocked_23 : decode cX9_blocked 23 = .ok (.ifCond .ne 5, 3) := by decide +kernel
theorem dX9_blocked_26 : decode cX9_blocked 26 = .ok (.iconst (-1), 1) := by decide +kernel
theorem dX9_blocked_27 : decode cX9_blocked 27 = .ok (.ireturn, 1) := by decide +kernel
theorem dX9_blocked_28 : decode cX9_blocked 28 = .ok (.aload_n 0, 1) := by decide +kernel
theorem dX9_blocked_29 : decode cX9_blocked 29 = .ok (.iload_n 1, 1) := by decide +kernel
theorem dX9_blocked_30 : decode cX9_blocked 30 = .ok (.iload_n 2, 1) := by decide +kernel
theorem dX9_blocked_31 : decode cX9_blocked 31 = .ok (.invokevirtual 215, 3) := by decide +kernel
theorem dX9_blocked_34 : decode cX9_blocked 34 = .ok (.iload 4, 2) := by decide +kernel
theorem dX9_blocked_36 : decode cX9_blocked 36 = .ok (.ifCond .ne 18, 3) := by decide +kernel
theorem dX9_blocked_39 : decode cX9_blocked 39 = .ok (.aload_n 0, 1) := by decide +kernel
theorem dX9_blocked_40 : decode cX9_blocked 40 = .ok (.iload_n 3, 1) := by decide +kernel
theorem dX9_blocked_41 : decode cX9_blocked 41 = .ok (.iconst 0, 1) := by decide +kernel
theorem dX9_blocked_42 : decode cX9_blocked 42 = .ok (.invokevirtual 253, 3) := by decide +kernel
theorem dX9_blocked_45 : decode cX9_blocked 45 = .ok (.ifCond .eq 7, 3) := by decide +kernel
theorem dX9_blocked_48 : decode cX9_blocked 48 = .ok (.iconst 0, 1) := by decide +kernel
theorem dX9_blocked_49 : decode cX9_blocked 49 = .ok (.goto 4, 3) := by decide +kernel
theorem dX9_blocked_52 : decode cX9_blocked 52 = .ok (.iconst 1, 1) := by decide +kernel
theorem dX9_blocked_53 : decode cX9_blocked 53 = .ok (.ireturn, 1) := by decide +kernel
theorem dX9_blocked_54 : decode cX9_blocked 54 = .ok (.aload_n 0, 1) := by decide +kernel
theorem dX9_blocked_55 : decode cX9_blocked 55 = .ok (.getfield 7, 3) := by decide +kernel
theorem dX9_blocked_58 : decode cX9_blocked 58 = .ok (.bipush 12, 2) := by decide +kernel
theorem dX9_blocked_60 : decode cX9_blocked 60 = .ok (.iaload, 1) := by decide +kernel
theorem dX9_blocked_61 : decode cX9_blocked 61 = .ok (.istore 5, 2) := by decide +kernel
theorem dX9_blocked_63 : decode cX9_blocked 63 = .ok (.iconst 0, 1) := by decide +kernel
theorem dX9_blocked_64 : decode cX9_blocked 64 = .ok (.istore 6, 2) := by decide +kernel
theorem dX9_blocked_66 : decode cX9_blocked 66 = .ok (.iconst 0, 1) := by decide +kernel
theorem dX9_blocked_67 : decode cX9_blocked 67 = .ok (.istore 7, 2) := by decide +kernel
theorem dX9_blocked_69 : decode cX9_blocked 69 = .ok (.iload 7, 2) := by decide +kernel
theorem dX9_blocked_71 : decode cX9_blocked 71 = .ok (.aload_n 0, 1) := by decide +kernel
theorem dX9_blocked_72 : decode cX9_blocked 72 = .ok (.getfield 192, 3) := by decide +kernel
theorem dX9_blocked_75 : decode cX9_blocked 75 = .ok (.if_icmp .ge 38, 3) := by decide +kernel
theorem dX9_blocked_78 : decode cX9_blocked 78 = .ok (.aload_n 0, 1) := by decide +kernel
theorem dX9_blocked_79 : decode cX9_blocked 79 = .ok (.iload 7, 2) := by decide +kernel
theorem dX9_blocked_81 : decode cX9_blocked 81 = .ok (.iload_n 3, 1) := by decide +kernel
theorem dX9_blocked_82 : decode cX9_blocked 82 = .ok (.invokevirtual 237, 3) := by decide +kernel
theorem dX9_blocked_85 : decode cX9_blocked 85 = .ok (.iconst (-1), 1) := by decide +kernel
theorem dX9_blocked_86 : decode cX9_blocked 86 = .ok (.if_icmp .ne 6, 3) := by decide +kernel
theorem dX9_blocked_89 : decode cX9_blocked 89 = .ok (.goto 18, 3) := by decide +kernel
theorem dX9_blocked_92 : decode cX9_blocked 92 = .ok (.iconst 1, 1) := by decide +kernel
theorem dX9_blocked_93 : decode cX9_blocked 93 = .ok (.istore 6, 2) := by decide +kernel
theorem dX9_blocked_95 : decode cX9_blocked 95 = .ok (.iload 5, 2) := by decide +kernel
theorem dX9_blocked_97 : decode cX9_blocked 97 = .ok (.aload_n 0, 1) := by decide +kernel
theorem dX9_blocked_98 : decode cX9_blocked 98 = .ok (.getfield 23, 3) := by decide +kernel
theorem dX9_blocked_101 : decode cX9_blocked 101 = .ok (.iload 7, 2) := by decide +kernel
theorem dX9_blocked_103 : decode cX9_blocked 103 = .ok (.iaload, 1) := by decide +kernel
theorem dX9_blocked_104 : decode cX9_blocked 104 = .ok (.iand, 1) := by decide +kernel
theorem dX9_blocked_105 : decode cX9_blocked 105 = .ok (.istore 5, 2) := by decide +kernel
theorem dX9_blocked_107 : decode cX9_blocked 107 = .ok (.iinc 7 1, 3) := by decide +kernel
theorem dX9_blocked_110 : decode cX9_blocked 110 = .ok (.goto (-41), 3) := by decide +kernel
theorem dX9_blocked_113 : decode cX9_blocked 113 = .ok (.iload 6, 2) := by decide +kernel
theorem dX9_blocked_115 : decode cX9_blocked 115 = .ok (.ifCond .ne 6, 3) := by decide +kernel
theorem dX9_blocked_118 : decode cX9_blocked 118 = .ok (.bipush (-4), 2) := by decide +kernel
theorem dX9_blocked_120 : decode cX9_blocked 120 = .ok (.ireturn, 1) := by decide +kernel
theorem dX9_blocked_121 : decode cX9_blocked 121 = .ok (.iload 4, 2) := by decide +kernel
theorem dX9_blocked_123 : decode cX9_blocked 123 = .ok (.iconst 1, 1) := by decide +kernel
theorem dX9_blocked_124 : decode cX9_blocked 124 = .ok (.if_icmp .ne 11, 3) := by decide +kernel
theorem dX9_blocked_127 : decode cX9_blocked 127 = .ok (.aload_n 0, 1) := by decide +kernel
theorem dX9_blocked_128 : decode cX9_blocked 128 = .ok (.iload_n 3, 1) := by decide +kernel
theorem dX9_blocked_129 : decode cX9_blocked 129 = .ok (.invokevirtual 278, 3) := by decide +kernel
theorem dX9_blocked_132 : decode cX9_blocked 132 = .ok (.goto 5, 3) := by decide +kernel
theorem dX9_blocked_135 : decode cX9_blocked 135 = .ok (.iload 5, 2) := by decide +kernel
theorem dX9_blocked_137 : decode cX9_blocked 137 = .ok (.ireturn, 1) := by decide +kernel
theorem dX9_drop_0 : decode cX9_drop 0 = .ok (.aload_n 0, 1) := by decide +kernel
theorem dX9_drop_1 : decode cX9_drop 1 = .ok (.iload_n 1, 1) := by decide +kernel
theorem dX9_drop_2 : decode cX9_drop 2 = .ok (.invokevirtual 281, 3) := by decide +kernel
theorem dX9_drop_5 : decode cX9_drop 5 = .ok (.ifCond .eq 13, 3) := by decide +kernel
theorem dX9_drop_8 : decode cX9_drop 8 = .ok (.aload_n 0, 1) := by decide +kernel
theorem dX9_drop_9 : decode cX9_drop 9 = .ok (.iload_n 1, 1) := by decide +kernel
theorem dX9_drop_10 : decode cX9_drop 10 = .ok (.iconst 3, 1) := by decide +kernel
theorem dX9_drop_11 : decode cX9_drop 11 = .ok (.invokevirtual 79, 3) := by decide +kernel
theorem dX9_drop_14 : decode cX9_drop 14 = .ok (.iconst 3, 1) := by decide +kernel
theorem dX9_drop_15 : decode cX9_drop 15 = .ok (.if_icmp .ne 5, 3) := by decide +kernel
theorem dX9_drop_18 : decode cX9_drop 18 = .ok (.iconst 0, 1) := by decide +kernel
theorem dX9_drop_19 : decode cX9_drop 19 = .ok (.ireturn, 1) := by decide +kernel
theorem dX9_drop_20 : decode cX9_drop 20 = .ok (.aload_n 0, 1) := by decide +kernel
theorem dX9_drop_21 : decode cX9_drop 21 = .ok (.iload_n 1, 1) := by decide +kernel
theorem dX9_drop_22 : decode cX9_drop 22 = .ok (.iconst 3, 1) := by decide +kernel
theorem dX9_drop_23 : decode cX9_drop 23 = .ok (.iconst 3, 1) := by decide +kernel
theorem dX9_drop_24 : decode cX9_drop 24 = .ok (.invokevirtual 256, 3) := by decide +kernel
theorem dX9_drop_27 : decode cX9_drop 27 = .ok (.iconst 1, 1) := by decide +kernel
theorem dX9_drop_28 : decode cX9_drop 28 = .ok (.ireturn, 1) := by decide +kernel
theorem dX9_lowest_0 : decode cX9_lowest 0 = .ok (.aload_n 0, 1) := by decide +kernel
theorem dX9_lowest_1 : decode cX9_lowest 1 = .ok (.iload_n 1, 1) := by decide +kernel
theorem dX9_lowest_2 : decode cX9_lowest 2 = .ok (.iconst 4, 1) := by decide +kernel
theorem dX9_lowest_3 : decode cX9_lowest 3 = .ok (.invokevirtual 79, 3) := by decide +kernel
theorem dX9_lowest_6 : decode cX9_lowest 6 = .ok (.istore_n 2, 1) := by decide +kernel
theorem dX9_lowest_7 : decode cX9_lowest 7 = .ok (.aload_n 0, 1) := by decide +kernel
theorem dX9_lowest_8 : decode cX9_lowest 8 = .ok (.aload_n 0, 1) := by decide +kernel
theorem dX9_lowest_9 : decode cX9_lowest 9 = .ok (.iload_n 1, 1) := by decide +kernel
theorem dX9_lowest_10 : decode cX9_lowest 10 = .ok (.bipush 6, 2) := by decide +kernel
theorem dX9_lowest_12 : decode cX9_lowest 12 = .ok (.invokevirtual 79, 3) := by decide +kernel
theorem dX9_lowest_15 : decode cX9_lowest 15 = .ok (.iload_n 2, 1) := by decide +kernel
theorem dX9_lowest_16 : decode cX9_lowest 16 = .ok (.iconst 1, 1) := by decide +kernel
theorem dX9_lowest_17 : decode cX9_lowest 17 = .ok (.isub, 1) := by decide +kernel
theorem dX9_lowest_18 : decode cX9_lowest 18 = .ok (.aload_n 0, 1) := by decide +kernel
theorem dX9_lowest_19 : decode cX9_lowest 19 = .ok (.iload_n 1, 1) := by decide +kernel
theorem dX9_lowest_20 : decode cX9_lowest 20 = .ok (.iconst 5, 1) := by decide +kernel
theorem dX9_lowest_21 : decode cX9_lowest 21 = .ok (.invokevirtual 79, 3) := by decide +kernel
theorem dX9_lowest_24 : decode cX9_lowest 24 = .ok (.iload_n 1, 1) := by decide +kernel
theorem dX9_lowest_25 : decode cX9_lowest 25 = .ok (.invokevirtual 240, 3) := by decide +kernel
theorem dX9_lowest_28 : decode cX9_lowest 28 = .ok (.ifCond .eq 10, 3) := by decide +kernel
theorem dX9_lowest_31 : decode cX9_lowest 31 = .ok (.iload_n 2, 1) := by decide +kernel
theorem dX9_lowest_32 : decode cX9_lowest 32 = .ok (.iconst 1, 1) := by decide +kernel
theorem dX9_lowest_33 : decode cX9_lowest 33 = .ok (.isub, 1) := by decide +kernel
theorem dX9_lowest_34 : decode cX9_lowest 34 = .ok (.istore_n 2, 1) := by decide +kernel
theorem dX9_lowest_35 : decode cX9_lowest 35 = .ok (.goto (-28), 3) := by decide +kernel
theorem dX9_lowest_38 : decode cX9_lowest 38 = .ok (.iload_n 2, 1) := by decide +kernel
theorem dX9_lowest_39 : decode cX9_lowest 39 = .ok (.ireturn, 1) := by decide +kernel
theorem dX9_slides_0 : decode cX9_slides 0 = .ok (.aload_n 0, 1) := by decide +kernel
theorem dX9_slides_1 : decode cX9_slides 1 = .ok (.iload_n 1, 1) := by decide +kernel
theorem dX9_slides_2 : decode cX9_slides 2 = .ok (.iconst 4, 1) := by decide +kernel
theorem dX9_slides_3 : decode cX9_slides 3 = .ok (.invokevirtual 79, 3) := by decide +kernel
theorem dX9_slides_6 : decode cX9_slides 6 = .ok (.aload_n 0, 1) := by decide +kernel
theorem dX9_slides_7 : decode cX9_slides 7 = .ok (.iload_n 1, 1) := by decide +kernel
theorem dX9_slides_8 : decode cX9_slides 8 = .ok (.invokevirtual 284, 3) := by decide +kernel
theorem dX9_slides_11 : decode cX9_slides 11 = .ok (.isub, 1) := by decide +kernel
theorem dX9_slides_12 : decode cX9_slides 12 = .ok (.istore_n 2, 1) := by decide +kernel
theorem dX9_slides_13 : decode cX9_slides 13 = .ok (.aload_n 0, 1) := by decide +kernel
theorem dX9_slides_14 : decode cX9_slides 14 = .ok (.iload_n 1, 1) := by decide +kernel
theorem dX9_slides_15 : decode cX9_slides 15 = .ok (.iconst 4, 1) := by decide +kernel
theorem dX9_slides_16 : decode cX9_slides 16 = .ok (.aload_n 0, 1) := by decide +kernel
theorem dX9_slides_17 : decode cX9_slides 17 = .ok (.iload_n 1, 1) := by decide +kernel
theorem dX9_slides_18 : decode cX9_slides 18 = .ok (.iconst 4, 1) := by decide +kernel
theorem dX9_slides_19 : decode cX9_slides 19 = .ok (.invokevirtual 79, 3) := by decide +kernel
theorem dX9_slides_22 : decode cX9_slides 22 = .ok (.iload_n 2, 1) := by decide +kernel
theorem dX9_slides_23 : decode cX9_slides 23 = .ok (.isub, 1) := by decide +kernel
theorem dX9_slides_24 : decode cX9_slides 24 = .ok (.invokevirtual 256, 3) := by decide +kernel
theorem dX9_slides_27 : decode cX9_slides 27 = .ok (.iload_n 2, 1) := by decide +kernel
theorem dX9_slides_28 : decode cX9_slides 28 = .ok (.ireturn, 1) := by decide +kernel
theorem dX9_slide_0 : decode cX9_slide 0 = .ok (.aload_n 0, 1) := by decide +kernel
theorem dX9_slide_1 : decode cX9_slide 1 = .ok (.iload_n 1, 1) := by decide +kernel
theorem dX9_slide_2 : decode cX9_slide 2 = .ok (.invokevirtual 281, 3) := by decide +kernel
theorem dX9_slide_5 : decode cX9_slide 5 = .ok (.ifCond .eq 19, 3) := by decide +kernel
theorem dX9_slide_8 : decode cX9_slide 8 = .ok (.aload_n 0, 1) := by decide +kernel
theorem dX9_slide_9 : decode cX9_slide 9 = .ok (.iload_n 1, 1) := by decide +kernel
theorem dX9_slide_10 : decode cX9_slide 10 = .ok (.invokevirtual 219, 3) := by decide +kernel
theorem dX9_slide_13 : decode cX9_slide 13 = .ok (.ifCond .eq 11, 3) := by decide +kernel
theorem dX9_slide_16 : decode cX9_slide 16 = .ok (.aload_n 0, 1) := by decide +kernel
theorem dX9_slide_17 : decode cX9_slide 17 = .ok (.iload_n 1, 1) := by decide +kernel
theorem dX9_slide_18 : decode cX9_slide 18 = .ok (.invokevirtual 287, 3) := by decide +kernel
theorem dX9_slide_21 : decode cX9_slide 21 = .ok (.goto 4, 3) := by decide +kernel
theorem dX9_slide_24 : decode cX9_slide 24 = .ok (.iconst (-1), 1) := by decide +kernel
theorem dX9_slide_25 : decode cX9_slide 25 = .ok (.ireturn, 1) := by decide +kernel
theorem dX9_sweep_0 : decode cX9_sweep 0 = .ok (.iconst 0, 1) := by decide +kernel
theorem dX9_sweep_1 : decode cX9_sweep 1 = .ok (.istore_n 1, 1) := by decide +kernel
theorem dX9_sweep_2 : decode cX9_sweep 2 = .ok (.iconst 0, 1) := by decide +kernel
theorem dX9_sweep_3 : decode cX9_sweep 3 = .ok (.istore_n 2, 1) := by decide +kernel
theorem dX9_sweep_4 : decode cX9_sweep 4 = .ok (.iload_n 2, 1) := by decide +kernel
theorem dX9_sweep_5 : decode cX9_sweep 5 = .ok (.aload_n 0, 1) := by decide +kernel
theorem dX9_sweep_6 : decode cX9_sweep 6 = .ok (.getfield 7, 3) := by decide +kernel
theorem dX9_sweep_9 : decode cX9_sweep 9 = .ok (.iconst 1, 1) := by decide +kernel
theorem dX9_sweep_10 : decode cX9_sweep 10 = .ok (.iaload, 1) := by decide +kernel
theorem dX9_sweep_11 : decode cX9_sweep 11 = .ok (.if_icmp .ge 60, 3) := by decide +kernel
theorem dX9_sweep_14 : decode cX9_sweep 14 = .ok (.iconst 0, 1) := by decide +kernel
theorem dX9_sweep_15 : decode cX9_sweep 15 = .ok (.istore_n 3, 1) := by decide +kernel
theorem dX9_sweep_16 : decode cX9_sweep 16 = .ok (.iload_n 3, 1) := by decide +kernel
theorem dX9_sweep_17 : decode cX9_sweep 17 = .ok (.aload_n 0, 1) := by decide +kernel
theorem dX9_sweep_18 : decode cX9_sweep 18 = .ok (.getfield 7, 3) := by decide +kernel
theorem dX9_sweep_21 : decode cX9_sweep 21 = .ok (.bipush 7, 2) := by decide +kernel
theorem dX9_sweep_23 : decode cX9_sweep 23 = .ok (.iaload, 1) := by decide +kernel
theorem dX9_sweep_24 : decode cX9_sweep 24 = .ok (.if_icmp .ge 41, 3) := by decide +kernel
theorem dX9_sweep_27 : decode cX9_sweep 27 = .ok (.aload_n 0, 1) := by decide +kernel
theorem dX9_sweep_28 : decode cX9_sweep 28 = .ok (.iload_n 3, 1) := by decide +kernel
theorem dX9_sweep_29 : decode cX9_sweep 29 = .ok (.invokevirtual 219, 3) := by decide +kernel
theorem dX9_sweep_32 : decode cX9_sweep 32 = .ok (.ifCond .eq 27, 3) := by decide +kernel
theorem dX9_sweep_35 : decode cX9_sweep 35 = .ok (.aload_n 0, 1) := by decide +kernel
theorem dX9_sweep_36 : decode cX9_sweep 36 = .ok (.iload_n 3, 1) := by decide +kernel
theorem dX9_sweep_37 : decode cX9_sweep 37 = .ok (.iconst 4, 1) := by decide +kernel
theorem dX9_sweep_38 : decode cX9_sweep 38 = .ok (.invokevirtual 79, 3) := by decide +kernel
theorem dX9_sweep_41 : decode cX9_sweep 41 = .ok (.iload_n 2, 1) := by decide +kernel
theorem dX9_sweep_42 : decode cX9_sweep 42 = .ok (.if_icmp .eq 6, 3) := by decide +kernel
theorem dX9_sweep_45 : decode cX9_sweep 45 = .ok (.goto 14, 3) := by decide +kernel
theorem dX9_sweep_48 : decode cX9_sweep 48 = .ok (.aload_n 0, 1) := by decide +kernel
theorem dX9_sweep_49 : decode cX9_sweep 49 = .ok (.getfield 38, 3) := by decide +kernel
theorem dX9_sweep_52 : decode cX9_sweep 52 = .ok (.iload_n 1, 1) := by decide +kernel
theorem dX9_sweep_53 : decode cX9_sweep 53 = .ok (.iload_n 3, 1) := by decide +kernel
theorem dX9_sweep_54 : decode cX9_sweep 54 = .ok (.iastore, 1) := by decide +kernel
theorem dX9_sweep_55 : decode cX9_sweep 55 = .ok (.iload_n 1, 1) := by decide +kernel
theorem dX9_sweep_56 : decode cX9_sweep 56 = .ok (.iconst 1, 1) := by decide +kernel
theorem dX9_sweep_57 : decode cX9_sweep 57 = .ok (.iadd, 1) := by decide +kernel
theorem dX9_sweep_58 : decode cX9_sweep 58 = .ok (.istore_n 1, 1) := by decide +kernel
theorem dX9_sweep_59 : decode cX9_sweep 59 = .ok (.iinc 3 1, 3) := by decide +kernel
theorem dX9_sweep_62 : decode cX9_sweep 62 = .ok (.goto (-46), 3) := by decide +kernel
theorem dX9_sweep_65 : decode cX9_sweep 65 = .ok (.iinc 2 1, 3) := by decide +kernel
theorem dX9_sweep_68 : decode cX9_sweep 68 = .ok (.goto (-64), 3) := by decide +kernel
theorem dX9_sweep_71 : decode cX9_sweep 71 = .ok (.iconst 0, 1) := by decide +kernel
theorem dX9_sweep_72 : decode cX9_sweep 72 = .ok (.istore_n 2, 1) := by decide +kernel
theorem dX9_sweep_73 : decode cX9_sweep 73 = .ok (.iconst 0, 1) := by decide +kernel
theorem dX9_sweep_74 : decode cX9_sweep 74 = .ok (.istore_n 3, 1) := by decide +kernel
theorem dX9_sweep_75 : decode cX9_sweep 75 = .ok (.iload_n 3, 1) := by decide +kernel
theorem dX9_sweep_76 : decode cX9_sweep 76 = .ok (.iload_n 1, 1) := by decide +kernel
theorem dX9_sweep_77 : decode cX9_sweep 77 = .ok (.if_icmp .ge 26, 3) := by decide +kernel
theorem dX9_sweep_80 : decode cX9_sweep 80 = .ok (.aload_n 0, 1) := by decide +kernel
theorem dX9_sweep_81 : decode cX9_sweep 81 = .ok (.aload_n 0, 1) := by decide +kernel
theorem dX9_sweep_82 : decode cX9_sweep 82 = .ok (.getfield 38, 3) := by decide +kernel
theorem dX9_sweep_85 : decode cX9_sweep 85 = .ok (.iload_n 3, 1) := by decide +kernel
theorem dX9_sweep_86 : decode cX9_sweep 86 = .ok (.iaload, 1) := by decide +kernel
theorem dX9_sweep_87 : decode cX9_sweep 87 = .ok (.invokevirtual 287, 3) := by decide +kernel
theorem dX9_sweep_90 : decode cX9_sweep 90 = .ok (.ifCond .le 7, 3) := by decide +kernel
theorem dX9_sweep_93 : decode cX9_sweep 93 = .ok (.iload_n 2, 1) := by decide +kernel
theorem dX9_sweep_94 : decode cX9_sweep 94 = .ok (.iconst 1, 1) := by decide +kernel
theorem dX9_sweep_95 : decode cX9_sweep 95 = .ok (.iadd, 1) := by decide +kernel
theorem dX9_sweep_96 : decode cX9_sweep 96 = .ok (.istore_n 2, 1) := by decide +kernel
theorem dX9_sweep_97 : decode cX9_sweep 97 = .ok (.iinc 3 1, 3) := by decide +kernel
theorem dX9_sweep_100 : decode cX9_sweep 100 = .ok (.goto (-25), 3) := by decide +kernel
theorem dX9_sweep_103 : decode cX9_sweep 103 = .ok (.iload_n 2, 1) := by decide +kernel
theorem dX9_sweep_104 : decode cX9_sweep 104 = .ok (.ireturn, 1) := by decide +kernel
theorem dX9_sweeps_0 : decode cX9_sweeps 0 = .ok (.iconst 0, 1) := by decide +kernel
theorem dX9_sweeps_1 : decode cX9_sweeps 1 = .ok (.istore_n 1, 1) := by decide +kernel
theorem dX9_sweeps_2 : decode cX9_sweeps 2 = .ok (.aload_n 0, 1) := by decide +kernel
theorem dX9_sweeps_3 : decode cX9_sweeps 3 = .ok (.invokevirtual 290, 3) := by decide +kernel
theorem dX9_sweeps_6 : decode cX9_sweeps 6 = .ok (.ifCond .le 10, 3) := by decide +kernel
theorem dX9_sweeps_9 : decode cX9_sweeps 9 = .ok (.iload_n 1, 1) := by decide +kernel
theorem dX9_sweeps_10 : decode cX9_sweeps 10 = .ok (.iconst 1, 1) := by decide +kernel
theorem dX9_sweeps_11 : decode cX9_sweeps 11 = .ok (.iadd, 1) := by decide +kernel
theorem dX9_sweeps_12 : decode cX9_sweeps 12 = .ok (.istore_n 1, 1) := by decide +kernel
theorem dX9_sweeps_13 : decode cX9_sweeps 13 = .ok (.goto (-11), 3) := by decide +kernel
theorem dX9_sweeps_16 : decode cX9_sweeps 16 = .ok (.iload_n 1, 1) := by decide +kernel
theorem dX9_sweeps_17 : decode cX9_sweeps 17 = .ok (.ireturn, 1) := by decide +kernel
theorem dX9_canJump_0 : decode cX9_canJump 0 = .ok (.aload_n 0, 1) := by decide +kernel
theorem dX9_canJump_1 : decode cX9_canJump 1 = .ok (.iload_n 1, 1) := by decide +kernel
theorem dX9_canJump_2 : decode cX9_canJump 2 = .ok (.iconst 5, 1) := by decide +kernel
theorem dX9_canJump_3 : decode cX9_canJump 3 = .ok (.invokevirtual 79, 3) := by decide +kernel
theorem dX9_canJump_6 : decode cX9_canJump 6 = .ok (.istore_n 3, 1) := by decide +kernel
theorem dX9_canJump_7 : decode cX9_canJump 7 = .ok (.aload_n 0, 1) := by decide +kernel
theorem dX9_canJump_8 : decode cX9_canJump 8 = .ok (.aload_n 0, 1) := by decide +kernel
theorem dX9_canJump_9 : decode cX9_canJump 9 = .ok (.iload_n 1, 1) := by decide +kernel
theorem dX9_canJump_10 : decode cX9_canJump 10 = .ok (.bipush 6, 2) := by decide +kernel
theorem dX9_canJump_12 : decode cX9_canJump 12 = .ok (.invokevirtual 79, 3) := by decide +kernel
theorem dX9_canJump_15 : decode cX9_canJump 15 = .ok (.iload_n 2, 1) := by decide +kernel
theorem dX9_canJump_16 : decode cX9_canJump 16 = .ok (.iload_n 3, 1) := by decide +kernel
theorem dX9_canJump_17 : decode cX9_canJump 17 = .ok (.iload_n 1, 1) := by decide +kernel
theorem dX9_canJump_18 : decode cX9_canJump 18 = .ok (.invokevirtual 240, 3) := by decide +kernel
theorem dX9_canJump_21 : decode cX9_canJump 21 = .ok (.ifCond .eq 31, 3) := by decide +kernel
theorem dX9_canJump_24 : decode cX9_canJump 24 = .ok (.iload_n 2, 1) := by decide +kernel
theorem dX9_canJump_25 : decode cX9_canJump 25 = .ok (.aload_n 0, 1) := by decide +kernel
theorem dX9_canJump_26 : decode cX9_canJump 26 = .ok (.iload_n 1, 1) := by decide +kernel
theorem dX9_canJump_27 : decode cX9_canJump 27 = .ok (.iconst 4, 1) := by decide +kernel
theorem dX9_canJump_28 : decode cX9_canJump 28 = .ok (.invokevirtual 79, 3) := by decide +kernel
theorem dX9_canJump_31 : decode cX9_canJump 31 = .ok (.iload_n 3, 1) := by decide +kernel
theorem dX9_canJump_32 : decode cX9_canJump 32 = .ok (.iadd, 1) := by decide +kernel
theorem dX9_canJump_33 : decode cX9_canJump 33 = .ok (.if_icmp .ge 15, 3) := by decide +kernel
theorem dX9_canJump_36 : decode cX9_canJump 36 = .ok (.aload_n 0, 1) := by decide +kernel
theorem dX9_canJump_37 : decode cX9_canJump 37 = .ok (.iload_n 1, 1) := by decide +kernel
theorem dX9_canJump_38 : decode cX9_canJump 38 = .ok (.iconst 4, 1) := by decide +kernel
theorem dX9_canJump_39 : decode cX9_canJump 39 = .ok (.invokevirtual 79, 3) := by decide +kernel
theorem dX9_canJump_42 : decode cX9_canJump 42 = .ok (.iload_n 2, 1) := by decide +kernel
theorem dX9_canJump_43 : decode cX9_canJump 43 = .ok (.iload_n 3, 1) := by decide +kernel
theorem dX9_canJump_44 : decode cX9_canJump 44 = .ok (.iadd, 1) := by decide +kernel
theorem dX9_canJump_45 : decode cX9_canJump 45 = .ok (.if_icmp .lt 7, 3) := by decide +kernel
theorem dX9_canJump_48 : decode cX9_canJump 48 = .ok (.iconst 1, 1) := by decide +kernel
theorem dX9_canJump_49 : decode cX9_canJump 49 = .ok (.goto 4, 3) := by decide +kernel
theorem dX9_canJump_52 : decode cX9_canJump 52 = .ok (.iconst 0, 1) := by decide +kernel
theorem dX9_canJump_53 : decode cX9_canJump 53 = .ok (.ireturn, 1) := by decide +kernel
theorem dX9_jump_0 : decode cX9_jump 0 = .ok (.aload_n 0, 1) := by decide +kernel
theorem dX9_jump_1 : decode cX9_jump 1 = .ok (.iload_n 1, 1) := by decide +kernel
theorem dX9_jump_2 : decode cX9_jump 2 = .ok (.invokevirtual 281, 3) := by decide +kernel
theorem dX9_jump_5 : decode cX9_jump 5 = .ok (.ifCond .eq 32, 3) := by decide +kernel
theorem dX9_jump_8 : decode cX9_jump 8 = .ok (.aload_n 0, 1) := by decide +kernel
theorem dX9_jump_9 : decode cX9_jump 9 = .ok (.iload_n 1, 1) := by decide +kernel
theorem dX9_jump_10 : decode cX9_jump 10 = .ok (.invokevirtual 219, 3) := by decide +kernel
theorem dX9_jump_13 : decode cX9_jump 13 = .ok (.ifCond .eq 24, 3) := by decide +kernel
theorem dX9_jump_16 : decode cX9_jump 16 = .ok (.iload_n 2, 1) := by decide +kernel
theorem dX9_jump_17 : decode cX9_jump 17 = .ok (.ifCond .lt 20, 3) := by decide +kernel
theorem dX9_jump_20 : decode cX9_jump 20 = .ok (.iload_n 2, 1) := by decide +kernel
theorem dX9_jump_21 : decode cX9_jump 21 = .ok (.aload_n 0, 1) := by decide +kernel
theorem dX9_jump_22 : decode cX9_jump 22 = .ok (.getfield 7, 3) := by decide +kernel
theorem dX9_jump_25 : decode cX9_jump 25 = .ok (.iconst 1, 1) := by decide +kernel
theorem dX9_jump_26 : decode cX9_jump 26 = .ok (.iaload, 1) := by decide +kernel
theorem dX9_jump_27 : decode cX9_jump 27 = .ok (.aload_n 0, 1) := by decide +kernel
theorem dX9_jump_28 : decode cX9_jump 28 = .ok (.iload_n 1, 1) := by decide +kernel
theorem dX9_jump_29 : decode cX9_jump 29 = .ok (.iconst 5, 1) := by decide +kernel
theorem dX9_jump_30 : decode cX9_jump 30 = .ok (.invokevirtual 79, 3) := by decide +kernel
theorem dX9_jump_33 : decode cX9_jump 33 = .ok (.isub, 1) := by decide +kernel
theorem dX9_jump_34 : decode cX9_jump 34 = .ok (.if_icmp .le 7, 3) := by decide +kernel
theorem dX9_jump_37 : decode cX9_jump 37 = .ok (.sipush (-1000), 3) := by decide +kernel
theorem dX9_jump_40 : decode cX9_jump 40 = .ok (.ireturn, 1) := by decide +kernel
theorem dX9_jump_41 : decode cX9_jump 41 = .ok (.aload_n 0, 1) := by decide +kernel
theorem dX9_jump_42 : decode cX9_jump 42 = .ok (.iload_n 1, 1) := by decide +kernel
theorem dX9_jump_43 : decode cX9_jump 43 = .ok (.iload_n 2, 1) := by decide +kernel
theorem dX9_jump_44 : decode cX9_jump 44 = .ok (.invokevirtual 293, 3) := by decide +kernel
theorem dX9_jump_47 : decode cX9_jump 47 = .ok (.ifCond .ne 7, 3) := by decide +kernel
theorem dX9_jump_50 : decode cX9_jump 50 = .ok (.sipush (-1001), 3) := by decide +kernel
theorem dX9_jump_53 : decode cX9_jump 53 = .ok (.ireturn, 1) := by decide +kernel
theorem dX9_jump_54 : decode cX9_jump 54 = .ok (.aload_n 0, 1) := by decide +kernel
theorem dX9_jump_55 : decode cX9_jump 55 = .ok (.iload_n 1, 1) := by decide +kernel
theorem dX9_jump_56 : decode cX9_jump 56 = .ok (.iconst 4, 1) := by decide +kernel
theorem dX9_jump_57 : decode cX9_jump 57 = .ok (.invokevirtual 79, 3) := by decide +kernel
theorem dX9_jump_60 : decode cX9_jump 60 = .ok (.iload_n 2, 1) := by decide +kernel
theorem dX9_jump_61 : decode cX9_jump 61 = .ok (.isub, 1) := by decide +kernel
theorem dX9_jump_62 : decode cX9_jump 62 = .ok (.istore_n 3, 1) := by decide +kernel
theorem dX9_jump_63 : decode cX9_jump 63 = .ok (.aload_n 0, 1) := by decide +kernel
theorem dX9_jump_64 : decode cX9_jump 64 = .ok (.iload_n 1, 1) := by decide +kernel
theorem dX9_jump_65 : decode cX9_jump 65 = .ok (.iconst 4, 1) := by decide +kernel
theorem dX9_jump_66 : decode cX9_jump 66 = .ok (.iload_n 2, 1) := by decide +kernel
theorem dX9_jump_67 : decode cX9_jump 67 = .ok (.invokevirtual 256, 3) := by decide +kernel
theorem dX9_jump_70 : decode cX9_jump 70 = .ok (.iload_n 3, 1) := by decide +kernel
theorem dX9_jump_71 : decode cX9_jump 71 = .ok (.ireturn, 1) := by decide +kernel
theorem dX9_isLink_0 : decode cX9_isLink 0 = .ok (.iload_n 1, 1) := by decide +kernel
theorem dX9_isLink_1 : decode cX9_isLink 1 = .ok (.iconst 0, 1) := by decide +kernel
theorem dX9_isLink_2 : decode cX9_isLink 2 = .ok (.aload_n 0, 1) := by decide +kernel
theorem dX9_isLink_3 : decode cX9_isLink 3 = .ok (.getfield 7, 3) := by decide +kernel
theorem dX9_isLink_6 : decode cX9_isLink 6 = .ok (.iconst 3, 1) := by decide +kernel
theorem dX9_isLink_7 : decode cX9_isLink 7 = .ok (.iaload, 1) := by decide +kernel
theorem dX9_isLink_8 : decode cX9_isLink 8 = .ok (.iconst 1, 1) := by decide +kernel
theorem dX9_isLink_9 : decode cX9_isLink 9 = .ok (.isub, 1) := by decide +kernel
theorem dX9_isLink_10 : decode cX9_isLink 10 = .ok (.invokestatic 83, 3) := by decide +kernel
theorem dX9_isLink_13 : decode cX9_isLink 13 = .ok (.ireturn, 1) := by decide +kernel
theorem dX9_cuts_0 : decode cX9_cuts 0 = .ok (.aload_n 0, 1) := by decide +kernel
theorem dX9_cuts_1 : decode cX9_cuts 1 = .ok (.getfield 7, 3) := by decide +kernel
theorem dX9_cuts_4 : decode cX9_cuts 4 = .ok (.bipush 12, 2) := by decide +kernel
theorem dX9_cuts_6 : decode cX9_cuts 6 = .ok (.aload_n 0, 1) := by decide +kernel
theorem dX9_cuts_7 : decode cX9_cuts 7 = .ok (.getfield 7, 3) := by decide +kernel
theorem dX9_cuts_10 : decode cX9_cuts 10 = .ok (.bipush 12, 2) := by decide +kernel
theorem dX9_cuts_12 : decode cX9_cuts 12 = .ok (.iaload, 1) := by decide +kernel
theorem dX9_cuts_13 : decode cX9_cuts 13 = .ok (.iconst 1, 1) := by decide +kernel
theorem dX9_cuts_14 : decode cX9_cuts 14 = .ok (.iload_n 1, 1) := by decide +kernel
theorem dX9_cuts_15 : decode cX9_cuts 15 = .ok (.ishl, 1) := by decide +kernel
theorem dX9_cuts_16 : decode cX9_cuts 16 = .ok (.iconst (-1), 1) := by decide +kernel
theorem dX9_cuts_17 : decode cX9_cuts 17 = .ok (.ixor, 1) := by decide +kernel
theorem dX9_cuts_18 : decode cX9_cuts 18 = .ok (.iand, 1) := by decide +kernel
theorem dX9_cuts_19 : decode cX9_cuts 19 = .ok (.iastore, 1) := by decide +kernel
theorem dX9_cuts_20 : decode cX9_cuts 20 = .ok (.iconst 0, 1) := by decide +kernel
theorem dX9_cuts_21 : decode cX9_cuts 21 = .ok (.istore_n 2, 1) := by decide +kernel
theorem dX9_cuts_22 : decode cX9_cuts 22 = .ok (.iconst 0, 1) := by decide +kernel
theorem dX9_cuts_23 : decode cX9_cuts 23 = .ok (.istore_n 3, 1) := by decide +kernel
theorem dX9_cuts_24 : decode cX9_cuts 24 = .ok (.iload_n 3, 1) := by decide +kernel
theorem dX9_cuts_25 : decode cX9_cuts 25 = .ok (.aload_n 0, 1) := by decide +kernel
theorem dX9_cuts_26 : decode cX9_cuts 26 = .ok (.getfield 7, 3) := by decide +kernel
theorem dX9_cuts_29 : decode cX9_cuts 29 = .ok (.bipush 7, 2) := by decide +kernel
theorem dX9_cuts_31 : decode cX9_cuts 31 = .ok (.iaload, 1) := by decide +kernel
theorem dX9_cuts_32 : decode cX9_cuts 32 = .ok (.if_icmp .ge 45, 3) := by decide +kernel
theorem dX9_cuts_35 : decode cX9_cuts 35 = .ok (.aload_n 0, 1) := by decide +kernel
theorem dX9_cuts_36 : decode cX9_cuts 36 = .ok (.iload_n 3, 1) := by decide +kernel
theorem dX9_cuts_37 : decode cX9_cuts 37 = .ok (.invokevirtual 219, 3) := by decide +kernel
theorem dX9_cuts_40 : decode cX9_cuts 40 = .ok (.ifCond .eq 31, 3) := by decide +kernel
theorem dX9_cuts_43 : decode cX9_cuts 43 = .ok (.aload_n 0, 1) := by decide +kernel
theorem dX9_cuts_44 : decode cX9_cuts 44 = .ok (.iload_n 3, 1) := by decide +kernel
theorem dX9_cuts_45 : decode cX9_cuts 45 = .ok (.bipush 6, 2) := by decide +kernel
theorem dX9_cuts_47 : decode cX9_cuts 47 = .ok (.invokevirtual 79, 3) := by decide +kernel
theorem dX9_cuts_50 : decode cX9_cuts 50 = .ok (.iload_n 1, 1) := by decide +kernel
theorem dX9_cuts_51 : decode cX9_cuts 51 = .ok (.invokestatic 179, 3) := by decide +kernel
theorem dX9_cuts_54 : decode cX9_cuts 54 = .ok (.ifCond .ne 6, 3) := by decide +kernel
theorem dX9_cuts_57 : decode cX9_cuts 57 = .ok (.goto 14, 3) := by decide +kernel
theorem dX9_cuts_60 : decode cX9_cuts 60 = .ok (.aload_n 0, 1) := by decide +kernel
theorem dX9_cuts_61 : decode cX9_cuts 61 = .ok (.iload_n 3, 1) := by decide +kernel
theorem dX9_cuts_62 : decode cX9_cuts 62 = .ok (.iconst 3, 1) := by decide +kernel
theorem dX9_cuts_63 : decode cX9_cuts 63 = .ok (.iconst 2, 1) := by decide +kernel
theorem dX9_cuts_64 : decode cX9_cuts 64 = .ok (.invokevirtual 256, 3) := by decide +kernel
theorem dX9_cuts_67 : decode cX9_cuts 67 = .ok (.iload_n 2, 1) := by decide +kernel
theorem dX9_cuts_68 : decode cX9_cuts 68 = .ok (.iconst 1, 1) := by decide +kernel
theorem dX9_cuts_69 : decode cX9_cuts 69 = .ok (.iadd, 1) := by decide +kernel
theorem dX9_cuts_70 : decode cX9_cuts 70 = .ok (.istore_n 2, 1) := by decide +kernel
theorem dX9_cuts_71 : decode cX9_cuts 71 = .ok (.iinc 3 1, 3) := by decide +kernel
theorem dX9_cuts_74 : decode cX9_cuts 74 = .ok (.goto (-50), 3) := by decide +kernel
theorem dX9_cuts_77 : decode cX9_cuts 77 = .ok (.iload_n 2, 1) := by decide +kernel
theorem dX9_cuts_78 : decode cX9_cuts 78 = .ok (.ireturn, 1) := by decide +kernel
theorem dX9_cut_0 : decode cX9_cut 0 = .ok (.aload_n 0, 1) := by decide +kernel
theorem dX9_cut_1 : decode cX9_cut 1 = .ok (.iload_n 1, 1) := by decide +kernel
theorem dX9_cut_2 : decode cX9_cut 2 = .ok (.invokevirtual 296, 3) := by decide +kernel
theorem dX9_cut_5 : decode cX9_cut 5 = .ok (.ifCond .ne 5, 3) := by decide +kernel
theorem dX9_cut_8 : decode cX9_cut 8 = .ok (.iconst (-1), 1) := by decide +kernel
theorem dX9_cut_9 : decode cX9_cut 9 = .ok (.ireturn, 1) := by decide +kernel
theorem dX9_cut_10 : decode cX9_cut 10 = .ok (.aload_n 0, 1) := by decide +kernel
theorem dX9_cut_11 : decode cX9_cut 11 = .ok (.iload_n 1, 1) := by decide +kernel
theorem dX9_cut_12 : decode cX9_cut 12 = .ok (.invokevirtual 182, 3) := by decide +kernel
theorem dX9_cut_15 : decode cX9_cut 15 = .ok (.ifCond .eq 11, 3) := by decide +kernel
theorem dX9_cut_18 : decode cX9_cut 18 = .ok (.aload_n 0, 1) := by decide +kernel
theorem dX9_cut_19 : decode cX9_cut 19 = .ok (.iload_n 1, 1) := by decide +kernel
theorem dX9_cut_20 : decode cX9_cut 20 = .ok (.invokevirtual 299, 3) := by decide +kernel
theorem dX9_cut_23 : decode cX9_cut 23 = .ok (.goto 5, 3) := by decide +kernel
theorem dX9_cut_26 : decode cX9_cut 26 = .ok (.bipush (-2), 2) := by decide +kernel
theorem dX9_cut_28 : decode cX9_cut 28 = .ok (.ireturn, 1) := by decide +kernel
theorem dX9_mend_0 : decode cX9_mend 0 = .ok (.aload_n 0, 1) := by decide +kernel
theorem dX9_mend_1 : decode cX9_mend 1 = .ok (.iload_n 1, 1) := by decide +kernel
theorem dX9_mend_2 : decode cX9_mend 2 = .ok (.invokevirtual 296, 3) := by decide +kernel
theorem dX9_mend_5 : decode cX9_mend 5 = .ok (.ifCond .eq 11, 3) := by decide +kernel
theorem dX9_mend_8 : decode cX9_mend 8 = .ok (.aload_n 0, 1) := by decide +kernel
theorem dX9_mend_9 : decode cX9_mend 9 = .ok (.iload_n 1, 1) := by decide +kernel
theorem dX9_mend_10 : decode cX9_mend 10 = .ok (.invokevirtual 182, 3) := by decide +kernel
theorem dX9_mend_13 : decode cX9_mend 13 = .ok (.ifCond .eq 5, 3) := by decide +kernel
theorem dX9_mend_16 : decode cX9_mend 16 = .ok (.iconst 0, 1) := by decide +kernel
theorem dX9_mend_17 : decode cX9_mend 17 = .ok (.ireturn, 1) := by decide +kernel
theorem dX9_mend_18 : decode cX9_mend 18 = .ok (.aload_n 0, 1) := by decide +kernel
theorem dX9_mend_19 : decode cX9_mend 19 = .ok (.getfield 7, 3) := by decide +kernel
theorem dX9_mend_22 : decode cX9_mend 22 = .ok (.bipush 12, 2) := by decide +kernel
theorem dX9_mend_24 : decode cX9_mend 24 = .ok (.aload_n 0, 1) := by decide +kernel
theorem dX9_mend_25 : decode cX9_mend 25 = .ok (.getfield 7, 3) := by decide +kernel
theorem dX9_mend_28 : decode cX9_mend 28 = .ok (.bipush 12, 2) := by decide +kernel
theorem dX9_mend_30 : decode cX9_mend 30 = .ok (.iaload, 1) := by decide +kernel
theorem dX9_mend_31 : decode cX9_mend 31 = .ok (.iconst 1, 1) := by decide +kernel
theorem dX9_mend_32 : decode cX9_mend 32 = .ok (.iload_n 1, 1) := by decide +kernel
theorem dX9_mend_33 : decode cX9_mend 33 = .ok (.ishl, 1) := by decide +kernel
theorem dX9_mend_34 : decode cX9_mend 34 = .ok (.ior, 1) := by decide +kernel
theorem dX9_mend_35 : decode cX9_mend 35 = .ok (.iastore, 1) := by decide +kernel
theorem dX9_mend_36 : decode cX9_mend 36 = .ok (.iconst 1, 1) := by decide +kernel
theorem dX9_mend_37 : decode cX9_mend 37 = .ok (.ireturn, 1) := by decide +kernel
theorem dX9_relights_0 : decode cX9_relights 0 = .ok (.iconst 0, 1) := by decide +kernel
theorem dX9_relights_1 : decode cX9_relights 1 = .ok (.istore_n 2, 1) := by decide +kernel
theorem dX9_relights_2 : decode cX9_relights 2 = .ok (.iconst 0, 1) := by decide +kernel
theorem dX9_relights_3 : decode cX9_relights 3 = .ok (.istore_n 3, 1) := by decide +kernel
theorem dX9_relights_4 : decode cX9_relights 4 = .ok (.iload_n 3, 1) := by decide +kernel
theorem dX9_relights_5 : decode cX9_relights 5 = .ok (.aload_n 0, 1) := by decide +kernel
theorem dX9_relights_6 : decode cX9_relights 6 = .ok (.getfield 7, 3) := by decide +kernel
theorem dX9_relights_9 : decode cX9_relights 9 = .ok (.bipush 7, 2) := by decide +kernel
theorem dX9_relights_11 : decode cX9_relights 11 = .ok (.iaload, 1) := by decide +kernel
theorem dX9_relights_12 : decode cX9_relights 12 = .ok (.if_icmp .ge 57, 3) := by decide +kernel
theorem dX9_relights_15 : decode cX9_relights 15 = .ok (.aload_n 0, 1) := by decide +kernel
theorem dX9_relights_16 : decode cX9_relights 16 = .ok (.iload_n 3, 1) := by decide +kernel
theorem dX9_relights_17 : decode cX9_relights 17 = .ok (.iconst 3, 1) := by decide +kernel
theorem dX9_relights_18 : decode cX9_relights 18 = .ok (.invokevirtual 79, 3) := by decide +kernel
theorem dX9_relights_21 : decode cX9_relights 21 = .ok (.iconst 2, 1) := by decide +kernel
theorem dX9_relights_22 : decode cX9_relights 22 = .ok (.if_icmp .ne 41, 3) := by decide +kernel
theorem dX9_relights_25 : decode cX9_relights 25 = .ok (.aload_n 0, 1) := by decide +kernel
theorem dX9_relights_26 : decode cX9_relights 26 = .ok (.aload_n 0, 1) := by decide +kernel
theorem dX9_relights_27 : decode cX9_relights 27 = .ok (.iload_n 3, 1) := by decide +kernel
theorem dX9_relights_28 : decode cX9_relights 28 = .ok (.iconst 0, 1) := by decide +kernel
theorem dX9_relights_29 : decode cX9_relights 29 = .ok (.invokevirtual 79, 3) := by decide +kernel
theorem dX9_relights_32 : decode cX9_relights 32 = .ok (.aload_n 0, 1) := by decide +kernel
theorem dX9_relights_33 : decode cX9_relights 33 = .ok (.iload_n 3, 1) := by decide +kernel
theorem dX9_relights_34 : decode cX9_relights 34 = .ok (.iconst 1, 1) := by decide +kernel
theorem dX9_relights_35 : decode cX9_relights 35 = .ok (.invokevirtual 79, 3) := by decide +kernel
theorem dX9_relights_38 : decode cX9_relights 38 = .ok (.aload_n 0, 1) := by decide +kernel
theorem dX9_relights_39 : decode cX9_relights 39 = .ok (.iload_n 3, 1) := by decide +kernel
theorem dX9_relights_40 : decode cX9_relights 40 = .ok (.iconst 2, 1) := by decide +kernel
theorem dX9_relights_41 : decode cX9_relights 41 = .ok (.invokevirtual 79, 3) := by decide +kernel
theorem dX9_relights_44 : decode cX9_relights 44 = .ok (.iload_n 1, 1) := by decide +kernel
theorem dX9_relights_45 : decode cX9_relights 45 = .ok (.invokevirtual 271, 3) := by decide +kernel
theorem dX9_relights_48 : decode cX9_relights 48 = .ok (.ifCond .ne 6, 3) := by decide +kernel
theorem dX9_relights_51 : decode cX9_relights 51 = .ok (.goto 12, 3) := by decide +kernel
theorem dX9_relights_54 : decode cX9_relights 54 = .ok (.aload_n 0, 1) := by decide +kernel
theorem dX9_relights_55 : decode cX9_relights 55 = .ok (.iload_n 3, 1) := by decide +kernel
theorem dX9_relights_56 : decode cX9_relights 56 = .ok (.invokevirtual 259, 3) := by decide +kernel
theorem dX9_relights_59 : decode cX9_relights 59 = .ok (.iload_n 2, 1) := by decide +kernel
theorem dX9_relights_60 : decode cX9_relights 60 = .ok (.iconst 1, 1) := by decide +kernel
theorem dX9_relights_61 : decode cX9_relights 61 = .ok (.iadd, 1) := by decide +kernel
theorem dX9_relights_62 : decode cX9_relights 62 = .ok (.istore_n 2, 1) := by decide +kernel
theorem dX9_relights_63 : decode cX9_relights 63 = .ok (.iinc 3 1, 3) := by decide +kernel
theorem dX9_relights_66 : decode cX9_relights 66 = .ok (.goto (-62), 3) := by decide +kernel
theorem dX9_relights_69 : decode cX9_relights 69 = .ok (.iload_n 2, 1) := by decide +kernel
theorem dX9_relights_70 : decode cX9_relights 70 = .ok (.ireturn, 1) := by decide +kernel
theorem dX9_relight_0 : decode cX9_relight 0 = .ok (.iload_n 1, 1) := by decide +kernel
theorem dX9_relight_1 : decode cX9_relight 1 = .ok (.invokestatic 265, 3) := by decide +kernel
theorem dX9_relight_4 : decode cX9_relight 4 = .ok (.ifCond .eq 11, 3) := by decide +kernel
theorem dX9_relight_7 : decode cX9_relight 7 = .ok (.aload_n 0, 1) := by decide +kernel
theorem dX9_relight_8 : decode cX9_relight 8 = .ok (.iload_n 1, 1) := by decide +kernel
theorem dX9_relight_9 : decode cX9_relight 9 = .ok (.invokevirtual 302, 3) := by decide +kernel
theorem dX9_relight_12 : decode cX9_relight 12 = .ok (.goto 4, 3) := by decide +kernel
theorem dX9_relight_15 : decode cX9_relight 15 = .ok (.iconst (-1), 1) := by decide +kernel
theorem dX9_relight_16 : decode cX9_relight 16 = .ok (.ireturn, 1) := by decide +kernel
theorem dX9_topOn_0 : decode cX9_topOn 0 = .ok (.iconst (-1), 1) := by decide +kernel
theorem dX9_topOn_1 : decode cX9_topOn 1 = .ok (.istore_n 2, 1) := by decide +kernel
theorem dX9_topOn_2 : decode cX9_topOn 2 = .ok (.iconst 0, 1) := by decide +kernel
theorem dX9_topOn_3 : decode cX9_topOn 3 = .ok (.istore_n 3, 1) := by decide +kernel
theorem dX9_topOn_4 : decode cX9_topOn 4 = .ok (.iload_n 3, 1) := by decide +kernel
theorem dX9_topOn_5 : decode cX9_topOn 5 = .ok (.aload_n 0, 1) := by decide +kernel
theorem dX9_topOn_6 : decode cX9_topOn 6 = .ok (.getfield 7, 3) := by decide +kernel
theorem dX9_topOn_9 : decode cX9_topOn 9 = .ok (.bipush 7, 2) := by decide +kernel
theorem dX9_topOn_11 : decode cX9_topOn 11 = .ok (.iaload, 1) := by decide +kernel
theorem dX9_topOn_12 : decode cX9_topOn 12 = .ok (.if_icmp .ge 49, 3) := by decide +kernel
theorem dX9_topOn_15 : decode cX9_topOn 15 = .ok (.aload_n 0, 1) := by decide +kernel
theorem dX9_topOn_16 : decode cX9_topOn 16 = .ok (.iload_n 3, 1) := by decide +kernel
theorem dX9_topOn_17 : decode cX9_topOn 17 = .ok (.invokevirtual 219, 3) := by decide +kernel
theorem dX9_topOn_20 : decode cX9_topOn 20 = .ok (.ifCond .eq 35, 3) := by decide +kernel
theorem dX9_topOn_23 : decode cX9_topOn 23 = .ok (.aload_n 0, 1) := by decide +kernel
theorem dX9_topOn_24 : decode cX9_topOn 24 = .ok (.iload_n 3, 1) := by decide +kernel
theorem dX9_topOn_25 : decode cX9_topOn 25 = .ok (.bipush 6, 2) := by decide +kernel
theorem dX9_topOn_27 : decode cX9_topOn 27 = .ok (.invokevirtual 79, 3) := by decide +kernel
theorem dX9_topOn_30 : decode cX9_topOn 30 = .ok (.iload_n 1, 1) := by decide +kernel
theorem dX9_topOn_31 : decode cX9_topOn 31 = .ok (.iand, 1) := by decide +kernel
theorem dX9_topOn_32 : decode cX9_topOn 32 = .ok (.ifCond .eq 23, 3) := by decide +kernel
theorem dX9_topOn_35 : decode cX9_topOn 35 = .ok (.iload_n 2, 1) := by decide +kernel
theorem dX9_topOn_36 : decode cX9_topOn 36 = .ok (.aload_n 0, 1) := by decide +kernel
theorem dX9_topOn_37 : decode cX9_topOn 37 = .ok (.iload_n 3, 1) := by decide +kernel
theorem dX9_topOn_38 : decode cX9_topOn 38 = .ok (.iconst 4, 1) := by decide +kernel
theorem dX9_topOn_39 : decode cX9_topOn 39 = .ok (.invokevirtual 79, 3) := by decide +kernel
theorem dX9_topOn_42 : decode cX9_topOn 42 = .ok (.aload_n 0, 1) := by decide +kernel
theorem dX9_topOn_43 : decode cX9_topOn 43 = .ok (.iload_n 3, 1) := by decide +kernel
theorem dX9_topOn_44 : decode cX9_topOn 44 = .ok (.iconst 5, 1) := by decide +kernel
theorem dX9_topOn_45 : decode cX9_topOn 45 = .ok (.invokevirtual 79, 3) := by decide +kernel
theorem dX9_topOn_48 : decode cX9_topOn 48 = .ok (.iadd, 1) := by decide +kernel
theorem dX9_topOn_49 : decode cX9_topOn 49 = .ok (.iconst 1, 1) := by decide +kernel
theorem dX9_topOn_50 : decode cX9_topOn 50 = .ok (.isub, 1) := by decide +kernel
theorem dX9_topOn_51 : decode cX9_topOn 51 = .ok (.invokestatic 305, 3) := by decide +kernel
theorem dX9_topOn_54 : decode cX9_topOn 54 = .ok (.istore_n 2, 1) := by decide +kernel
theorem dX9_topOn_55 : decode cX9_topOn 55 = .ok (.iinc 3 1, 3) := by decide +kernel
theorem dX9_topOn_58 : decode cX9_topOn 58 = .ok (.goto (-54), 3) := by decide +kernel
theorem dX9_topOn_61 : decode cX9_topOn 61 = .ok (.iload_n 2, 1) := by decide +kernel
theorem dX9_topOn_62 : decode cX9_topOn 62 = .ok (.ireturn, 1) := by decide +kernel
theorem dX9_top_0 : decode cX9_top 0 = .ok (.aload_n 0, 1) := by decide +kernel
theorem dX9_top_1 : decode cX9_top 1 = .ok (.sipush 16383, 3) := by decide +kernel
theorem dX9_top_4 : decode cX9_top 4 = .ok (.invokevirtual 308, 3) := by decide +kernel
theorem dX9_top_7 : decode cX9_top 7 = .ok (.ireturn, 1) := by decide +kernel
theorem dX9_aims_0 : decode cX9_aims 0 = .ok (.aload_n 0, 1) := by decide +kernel
theorem dX9_aims_1 : decode cX9_aims 1 = .ok (.iconst 0, 1) := by decide +kernel
theorem dX9_aims_2 : decode cX9_aims 2 = .ok (.iconst 2, 1) := by decide +kernel
theorem dX9_aims_3 : decode cX9_aims 3 = .ok (.invokevirtual 311, 3) := by decide +kernel
theorem dX9_aims_6 : decode cX9_aims 6 = .ok (.iconst 1, 1) := by decide +kernel
theorem dX9_aims_7 : decode cX9_aims 7 = .ok (.istore_n 2, 1) := by decide +kernel
theorem dX9_aims_8 : decode cX9_aims 8 = .ok (.aload_n 0, 1) := by decide +kernel
theorem dX9_aims_9 : decode cX9_aims 9 = .ok (.iconst 0, 1) := by decide +kernel
theorem dX9_aims_10 : decode cX9_aims 10 = .ok (.putfield 314, 3) := by decide +kernel
theorem dX9_aims_13 : decode cX9_aims 13 = .ok (.iconst 0, 1) := by decide +kernel
theorem dX9_aims_14 : decode cX9_aims 14 = .ok (.istore_n 3, 1) := by decide +kernel
theorem dX9_aims_15 : decode cX9_aims 15 = .ok (.iload_n 3, 1) := by decide +kernel
theorem dX9_aims_16 : decode cX9_aims 16 = .ok (.aload_n 0, 1) := by decide +kernel
theorem dX9_aims_17 : decode cX9_aims 17 = .ok (.getfield 7, 3) := by decide +kernel
theorem dX9_aims_20 : decode cX9_aims 20 = .ok (.bipush 7, 2) := by decide +kernel
theorem dX9_aims_22 : decode cX9_aims 22 = .ok (.iaload, 1) := by decide +kernel
theorem dX9_aims_23 : decode cX9_aims 23 = .ok (.if_icmp .ge 45, 3) := by decide +kernel
theorem dX9_aims_26 : decode cX9_aims 26 = .ok (.aload_n 0, 1) := by decide +kernel
theorem dX9_aims_27 : decode cX9_aims 27 = .ok (.getfield 53, 3) := by decide +kernel
theorem dX9_aims_30 : decode cX9_aims 30 = .ok (.iload_n 3, 1) := by decide +kernel
theorem dX9_aims_31 : decode cX9_aims 31 = .ok (.iconst 0, 1) := by decide +kernel
theorem dX9_aims_32 : decode cX9_aims 32 = .ok (.bastore, 1) := by decide +kernel
theorem dX9_aims_33 : decode cX9_aims 33 = .ok (.aload_n 0, 1) := by decide +kernel
theorem dX9_aims_34 : decode cX9_aims 34 = .ok (.getfield 57, 3) := by decide +kernel
theorem dX9_aims_37 : decode cX9_aims 37 = .ok (.iload_n 3, 1) := by decide +kernel
theorem dX9_aims_38 : decode cX9_aims 38 = .ok (.iconst 0, 1) := by decide +kernel
theorem dX9_aims_39 : decode cX9_aims 39 = .ok (.bastore, 1) := by decide +kernel
theorem dX9_aims_40 : decode cX9_aims 40 = .ok (.aload_n 0, 1) := by decide +kernel
theorem dX9_aims_41 : decode cX9_aims 41 = .ok (.getfield 60, 3) := by decide +kernel
theorem dX9_aims_44 : decode cX9_aims 44 = .ok (.iload_n 3, 1) := by decide +kernel
theorem dX9_aims_45 : decode cX9_aims 45 = .ok (.iconst 0, 1) := by decide +kernel
theorem dX9_aims_46 : decode cX9_aims 46 = .ok (.bastore, 1) := by decide +kernel
theorem dX9_aims_47 : decode cX9_aims 47 = .ok (.aload_n 0, 1) := by decide +kernel
theorem dX9_aims_48 : decode cX9_aims 48 = .ok (.iload_n 3, 1) := by decide +kernel
theorem dX9_aims_49 : decode cX9_aims 49 = .ok (.invokevirtual 219, 3) := by decide +kernel
theorem dX9_aims_52 : decode cX9_aims 52 = .ok (.ifCond .eq 10, 3) := by decide +kernel
theorem dX9_aims_55 : decode cX9_aims 55 = .ok (.aload_n 0, 1) := by decide +kernel
theorem dX9_aims_56 : decode cX9_aims 56 = .ok (.iload_n 3, 1) := by decide +kernel
theorem dX9_aims_57 : decode cX9_aims 57 = .ok (.iconst 3, 1) := by decide +kernel
theorem dX9_aims_58 : decode cX9_aims 58 = .ok (.iconst 4, 1) := by decide +kernel
theorem dX9_aims_59 : decode cX9_aims 59 = .ok (.invokevirtual 256, 3) := by decide +kernel
theorem dX9_aims_62 : decode cX9_aims 62 = .ok (.iinc 3 1, 3) := by decide +kernel
theorem dX9_aims_65 : decode cX9_aims 65 = .ok (.goto (-50), 3) := by decide +kernel
theorem dX9_aims_68 : decode cX9_aims 68 = .ok (.iconst 0, 1) := by decide +kernel
theorem dX9_aims_69 : decode cX9_aims 69 = .ok (.istore_n 3, 1) := by decide +kernel
theorem dX9_aims_70 : decode cX9_aims 70 = .ok (.iload_n 3, 1) := by decide +kernel
theorem dX9_aims_71 : decode cX9_aims 71 = .ok (.aload_n 0, 1) := by decide +kernel
theorem dX9_aims_72 : decode cX9_aims 72 = .ok (.getfield 7, 3) := by decide +kernel
theorem dX9_aims_75 : decode cX9_aims 75 = .ok (.bipush 7, 2) := by decide +kernel
theorem dX9_aims_77 : decode cX9_aims 77 = .ok (.iaload, 1) := by decide +kernel
theorem dX9_aims_78 : decode cX9_aims 78 = .ok (.if_icmp .ge 204, 3) := by decide +kernel
theorem dX9_aims_81 : decode cX9_aims 81 = .ok (.iload_n 2, 1) := by decide +kernel
theorem dX9_aims_82 : decode cX9_aims 82 = .ok (.ifCond .eq 200, 3) := by decide +kernel
theorem dX9_aims_85 : decode cX9_aims 85 = .ok (.aload_n 0, 1) := by decide +kernel
theorem dX9_aims_86 : decode cX9_aims 86 = .ok (.iload_n 3, 1) := by decide +kernel
theorem dX9_aims_87 : decode cX9_aims 87 = .ok (.iconst 3, 1) := by decide +kernel
theorem dX9_aims_88 : decode cX9_aims 88 = .ok (.invokevirtual 79, 3) := by decide +kernel
theorem dX9_aims_91 : decode cX9_aims 91 = .ok (.iconst 4, 1) := by decide +kernel
theorem dX9_aims_92 : decode cX9_aims 92 = .ok (.if_icmp .eq 6, 3) := by decide +kernel
theorem dX9_aims_95 : decode cX9_aims 95 = .ok (.goto 181, 3) := by decide +kernel
theorem dX9_aims_98 : decode cX9_aims 98 = .ok (.aload_n 0, 1) := by decide +kernel
theorem dX9_aims_99 : decode cX9_aims 99 = .ok (.aload_n 0, 1) := by decide +kernel
theorem dX9_aims_100 : decode cX9_aims 100 = .ok (.iload_n 3, 1) := by decide +kernel
theorem dX9_aims_101 : decode cX9_aims 101 = .ok (.iconst 0, 1) := by decide +kernel
theorem dX9_aims_102 : decode cX9_aims 102 = .ok (.invokevirtual 79, 3) := by decide +kernel
theorem dX9_aims_105 : decode cX9_aims 105 = .ok (.aload_n 0, 1) := by decide +kernel
theorem dX9_aims_106 : decode cX9_aims 106 = .ok (.iload_n 3, 1) := by decide +kernel
theorem dX9_aims_107 : decode cX9_aims 107 = .ok (.iconst 1, 1) := by decide +kernel
theorem dX9_aims_108 : decode cX9_aims 108 = .ok (.invokevirtual 79, 3) := by decide +kernel
theorem dX9_aims_111 : decode cX9_aims 111 = .ok (.aload_n 0, 1) := by decide +kernel
theorem dX9_aims_112 : decode cX9_aims 112 = .ok (.iload_n 3, 1) := by decide +kernel
theorem dX9_aims_113 : decode cX9_aims 113 = .ok (.iconst 2, 1) := by decide +kernel
theorem dX9_aims_114 : decode cX9_aims 114 = .ok (.invokevirtual 79, 3) := by decide +kernel
theorem dX9_aims_117 : decode cX9_aims 117 = .ok (.iload_n 1, 1) := by decide +kernel
theorem dX9_aims_118 : decode cX9_aims 118 = .ok (.invokevirtual 271, 3) := by decide +kernel
theorem dX9_aims_121 : decode cX9_aims 121 = .ok (.ifCond .eq 86, 3) := by decide +kernel
theorem dX9_aims_124 : decode cX9_aims 124 = .ok (.aload_n 0, 1) := by decide +kernel
theorem dX9_aims_125 : decode cX9_aims 125 = .ok (.getfield 53, 3) := by decide +kernel
theorem dX9_aims_128 : decode cX9_aims 128 = .ok (.iload_n 3, 1) := by decide +kernel
theorem dX9_aims_129 : decode cX9_aims 129 = .ok (.aload_n 0, 1) := by decide +kernel
theorem dX9_aims_130 : decode cX9_aims 130 = .ok (.iload_n 3, 1) := by decide +kernel
theorem dX9_aims_131 : decode cX9_aims 131 = .ok (.iconst 4, 1) := by decide +kernel
theorem dX9_aims_132 : decode cX9_aims 132 = .ok (.invokevirtual 79, 3) := by decide +kernel
theorem dX9_aims_135 : decode cX9_aims 135 = .ok (.aload_n 0, 1) := by decide +kernel
theorem dX9_aims_136 : decode cX9_aims 136 = .ok (.getfield 247, 3) := by decide +kernel
theorem dX9_aims_139 : decode cX9_aims 139 = .ok (.if_icmp .ne 35, 3) := by decide +kernel
theorem dX9_aims_142 : decode cX9_aims 142 = .ok (.aload_n 0, 1) := by decide +kernel
theorem dX9_aims_143 : decode cX9_aims 143 = .ok (.iload_n 3, 1) := by decide +kernel
theorem dX9_aims_144 : decode cX9_aims 144 = .ok (.iconst 5, 1) := by decide +kernel
theorem dX9_aims_145 : decode cX9_aims 145 = .ok (.invokevirtual 79, 3) := by decide +kernel
theorem dX9_aims_148 : decode cX9_aims 148 = .ok (.aload_n 0, 1) := by decide +kernel
theorem dX9_aims_149 : decode cX9_aims 149 = .ok (.getfield 250, 3) := by decide +kernel
theorem dX9_aims_152 : decode cX9_aims 152 = .ok (.if_icmp .ne 22, 3) := by decide +kernel
theorem dX9_aims_155 : decode cX9_aims 155 = .ok (.aload_n 0, 1) := by decide +kernel
theorem dX9_aims_156 : decode cX9_aims 156 = .ok (.iload_n 3, 1) := by decide +kernel
theorem dX9_aims_157 : decode cX9_aims 157 = .ok (.bipush 6, 2) := by decide +kernel
theorem dX9_aims_159 : decode cX9_aims 159 = .ok (.invokevirtual 79, 3) := by decide +kernel
theorem dX9_aims_162 : decode cX9_aims 162 = .ok (.aload_n 0, 1) := by decide +kernel
theorem dX9_aims_163 : decode cX9_aims 163 = .ok (.getfield 23, 3) := by decide +kernel
theorem dX9_aims_166 : decode cX9_aims 166 = .ok (.aload_n 0, 1) := by decide +kernel
theorem dX9_aims_167 : decode cX9_aims 167 = .ok (.getfield 233, 3) := by decide +kernel
theorem dX9_aims_170 : decode cX9_aims 170 = .ok (.iaload, 1) := by decide +kernel
theorem dX9_aims_171 : decode cX9_aims 171 = .ok (.if_icmp .eq 7, 3) := by decide +kernel
theorem dX9_aims_174 : decode cX9_aims 174 = .ok (.iconst 1, 1) := by decide +kernel
theorem dX9_aims_175 : decode cX9_aims 175 = .ok (.goto 4, 3) := by decide +kernel
theorem dX9_aims_178 : decode cX9_aims 178 = .ok (.iconst 0, 1) := by decide +kernel
theorem dX9_aims_179 : decode cX9_aims 179 = .ok (.bastore, 1) := by decide +kernel
theorem dX9_aims_180 : decode cX9_aims 180 = .ok (.aload_n 0, 1) := by decide +kernel
theorem dX9_aims_181 : decode cX9_aims 181 = .ok (.iload_n 3, 1) := by decide +kernel
theorem dX9_aims_182 : decode cX9_aims 182 = .ok (.invokevirtual 259, 3) := by decide +kernel
theorem dX9_aims_185 : decode cX9_aims 185 = .ok (.aload_n 0, 1) := by decide +kernel
theorem dX9_aims_186 : decode cX9_aims 186 = .ok (.getfield 53, 3) := by decide +kernel
theorem dX9_aims_189 : decode cX9_aims 189 = .ok (.iload_n 3, 1) := by decide +kernel
theorem dX9_aims_190 : decode cX9_aims 190 = .ok (.baload, 1) := by decide +kernel
theorem dX9_aims_191 : decode cX9_aims 191 = .ok (.ifCond .eq 48, 3) := by decide +kernel
theorem dX9_aims_194 : decode cX9_aims 194 = .ok (.aload_n 0, 1) := by decide +kernel
theorem dX9_aims_195 : decode cX9_aims 195 = .ok (.aload_n 0, 1) := by decide +kernel
theorem dX9_aims_196 : decode cX9_aims 196 = .ok (.getfield 314, 3) := by decide +kernel
theorem dX9_aims_199 : decode cX9_aims 199 = .ok (.iconst 1, 1) := by decide +kernel
theorem dX9_aims_200 : decode cX9_aims 200 = .ok (.iadd, 1) := by decide +kernel
theorem dX9_aims_201 : decode cX9_aims 201 = .ok (.putfield 314, 3) := by decide +kernel
theorem dX9_aims_204 : decode cX9_aims 204 = .ok (.goto 35, 3) := by decide +kernel
theorem dX9_aims_207 : decode cX9_aims 207 = .ok (.aload_n 0, 1) := by decide +kernel
theorem dX9_aims_208 : decode cX9_aims 208 = .ok (.aload_n 0, 1) := by decide +kernel
theorem dX9_aims_209 : decode cX9_aims 209 = .ok (.iload_n 3, 1) := by decide +kernel
theorem dX9_aims_210 : decode cX9_aims 210 = .ok (.bipush 6, 2) := by decide +kernel
theorem dX9_aims_212 : decode cX9_aims 212 = .ok (.invokevirtual 79, 3) := by decide +kernel
theorem dX9_aims_215 : decode cX9_aims 215 = .ok (.aload_n 0, 1) := by decide +kernel
theorem dX9_aims_216 : decode cX9_aims 216 = .ok (.iload_n 3, 1) := by decide +kernel
theorem dX9_aims_217 : decode cX9_aims 217 = .ok (.iconst 4, 1) := by decide +kernel
theorem dX9_aims_218 : decode cX9_aims 218 = .ok (.invokevirtual 79, 3) := by decide +kernel
theorem dX9_aims_221 : decode cX9_aims 221 = .ok (.aload_n 0, 1) := by decide +kernel
theorem dX9_aims_222 : decode cX9_aims 222 = .ok (.iload_n 3, 1) := by decide +kernel
theorem dX9_aims_223 : decode cX9_aims 223 = .ok (.iconst 5, 1) := by decide +kernel
theorem dX9_aims_224 : decode cX9_aims 224 = .ok (.invokevirtual 79, 3) := by decide +kernel
theorem dX9_aims_227 : decode cX9_aims 227 = .ok (.iload_n 3, 1) := by decide +kernel
theorem dX9_aims_228 : decode cX9_aims 228 = .ok (.invokevirtual 240, 3) := by decide +kernel
theorem dX9_aims_231 : decode cX9_aims 231 = .ok (.istore_n 2, 1) := by decide +kernel
theorem dX9_aims_232 : decode cX9_aims 232 = .ok (.aload_n 0, 1) := by decide +kernel
theorem dX9_aims_233 : decode cX9_aims 233 = .ok (.iload_n 3, 1) := by decide +kernel
theorem dX9_aims_234 : decode cX9_aims 234 = .ok (.iconst 3, 1) := by decide +kernel
theorem dX9_aims_235 : decode cX9_aims 235 = .ok (.iconst 0, 1) := by decide +kernel
theorem dX9_aims_236 : decode cX9_aims 236 = .ok (.invokevirtual 256, 3) := by decide +kernel
theorem dX9_aims_239 : decode cX9_aims 239 = .ok (.aload_n 0, 1) := by decide +kernel
theorem dX9_aims_240 : decode cX9_aims 240 = .ok (.getfield 41, 3) := by decide +kernel
theorem dX9_aims_243 : decode cX9_aims 243 = .ok (.iload_n 3, 1) := by decide +kernel
theorem dX9_aims_244 : decode cX9_aims 244 = .ok (.aload_n 0, 1) := by decide +kernel
theorem dX9_aims_245 : decode cX9_aims 245 = .ok (.iload_n 3, 1) := by decide +kernel
theorem dX9_aims_246 : decode cX9_aims 246 = .ok (.iconst 4, 1) := by decide +kernel
theorem dX9_aims_247 : decode cX9_aims 247 = .ok (.invokevirtual 79, 3) := by decide +kernel
theorem dX9_aims_250 : decode cX9_aims 250 = .ok (.iastore, 1) := by decide +kernel
theorem dX9_aims_251 : decode cX9_aims 251 = .ok (.aload_n 0, 1) := by decide +kernel
theorem dX9_aims_252 : decode cX9_aims 252 = .ok (.getfield 44, 3) := by decide +kernel
theorem dX9_aims_255 : decode cX9_aims 255 = .ok (.iload_n 3, 1) := by decide +kernel
theorem dX9_aims_256 : decode cX9_aims 256 = .ok (.aload_n 0, 1) := by decide +kernel
theorem dX9_aims_257 : decode cX9_aims 257 = .ok (.iload_n 3, 1) := by decide +kernel
theorem dX9_aims_258 : decode cX9_aims 258 = .ok (.iconst 5, 1) := by decide +kernel
theorem dX9_aims_259 : decode cX9_aims 259 = .ok (.invokevirtual 79, 3) := by decide +kernel
theorem dX9_aims_262 : decode cX9_aims 262 = .ok (.iastore, 1) := by decide +kernel
theorem dX9_aims_263 : decode cX9_aims 263 = .ok (.aload_n 0, 1) := by decide +kernel
theorem dX9_aims_264 : decode cX9_aims 264 = .ok (.getfield 47, 3) := by decide +kernel
theorem dX9_aims_267 : decode cX9_aims 267 = .ok (.iload_n 3, 1) := by decide +kernel
theorem dX9_aims_268 : decode cX9_aims 268 = .ok (.aload_n 0, 1) := by decide +kernel
theorem dX9_aims_269 : decode cX9_aims 269 = .ok (.iload_n 3, 1) := by decide +kernel
theorem dX9_aims_270 : decode cX9_aims 270 = .ok (.bipush 6, 2) := by decide +kernel
theorem dX9_aims_272 : decode cX9_aims 272 = .ok (.invokevirtual 79, 3) := by decide +kernel
theorem dX9_aims_275 : decode cX9_aims 275 = .ok (.iastore, 1) := by decide +kernel
theorem dX9_aims_276 : decode cX9_aims 276 = .ok (.iinc 3 1, 3) := by decide +kernel
theorem dX9_aims_279 : decode cX9_aims 279 = .ok (.goto (-209), 3) := by decide +kernel
theorem dX9_aims_282 : decode cX9_aims 282 = .ok (.aload_n 0, 1) := by decide +kernel
theorem dX9_aims_283 : decode cX9_aims 283 = .ok (.aload_n 0, 1) := by decide +kernel
theorem dX9_aims_284 : decode cX9_aims 284 = .ok (.invokevirtual 317, 3) := by decide +kernel
theorem dX9_aims_287 : decode cX9_aims 287 = .ok (.putfield 320, 3) := by decide +kernel
theorem dX9_aims_290 : decode cX9_aims 290 = .ok (.aload_n 0, 1) := by decide +kernel
theorem dX9_aims_291 : decode cX9_aims 291 = .ok (.iconst 2, 1) := by decide +kernel
theorem dX9_aims_292 : decode cX9_aims 292 = .ok (.iconst 0, 1) := by decide +kernel
theorem dX9_aims_293 : decode cX9_aims 293 = .ok (.invokevirtual 311, 3) := by decide +kernel
theorem dX9_aims_296 : decode cX9_aims 296 = .ok (.aload_n 0, 1) := by decide +kernel
theorem dX9_aims_297 : decode cX9_aims 297 = .ok (.iconst 0, 1) := by decide +kernel
theorem dX9_aims_298 : decode cX9_aims 298 = .ok (.putfield 323, 3) := by decide +kernel
theorem dX9_aims_301 : decode cX9_aims 301 = .ok (.aload_n 0, 1) := by decide +kernel
theorem dX9_aims_302 : decode cX9_aims 302 = .ok (.iconst 0, 1) := by decide +kernel
theorem dX9_aims_303 : decode cX9_aims 303 = .ok (.putfield 326, 3) := by decide +kernel
theorem dX9_aims_306 : decode cX9_aims 306 = .ok (.iload_n 2, 1) := by decide +kernel
theorem dX9_aims_307 : decode cX9_aims 307 = .ok (.ireturn, 1) := by decide +kernel
theorem dX9_isLeft_0 : decode cX9_isLeft 0 = .ok (.aload_n 0, 1) := by decide +kernel
theorem dX9_isLeft_1 : decode cX9_isLeft 1 = .ok (.getfield 53, 3) := by decide +kernel
theorem dX9_isLeft_4 : decode cX9_isLeft 4 = .ok (.iload_n 1, 1) := by decide +kernel
theorem dX9_isLeft_5 : decode cX9_isLeft 5 = .ok (.baload, 1) := by decide +kernel
theorem dX9_isLeft_6 : decode cX9_isLeft 6 = .ok (.ifCond .eq 16, 3) := by decide +kernel
theorem dX9_isLeft_9 : decode cX9_isLeft 9 = .ok (.aload_n 0, 1) := by decide +kernel
theorem dX9_isLeft_10 : decode cX9_isLeft 10 = .ok (.getfield 57, 3) := by decide +kernel
theorem dX9_isLeft_13 : decode cX9_isLeft 13 = .ok (.iload_n 1, 1) := by decide +kernel
theorem dX9_isLeft_14 : decode cX9_isLeft 14 = .ok (.baload, 1) := by decide +kernel
theorem dX9_isLeft_15 : decode cX9_isLeft 15 = .ok (.ifCond .ne 7, 3) := by decide +kernel
theorem dX9_isLeft_18 : decode cX9_isLeft 18 = .ok (.iconst 1, 1) := by decide +kernel
theorem dX9_isLeft_19 : decode cX9_isLeft 19 = .ok (.goto 4, 3) := by decide +kernel
theorem dX9_isLeft_22 : decode cX9_isLeft 22 = .ok (.iconst 0, 1) := by decide +kernel
theorem dX9_isLeft_23 : decode cX9_isLeft 23 = .ok (.ireturn, 1) := by decide +kernel
theorem dX9_waitsFor_0 : decode cX9_waitsFor 0 = .ok (.iload_n 1, 1) := by decide +kernel
theorem dX9_waitsFor_1 : decode cX9_waitsFor 1 = .ok (.iload_n 2, 1) := by decide +kernel
theorem dX9_waitsFor_2 : decode cX9_waitsFor 2 = .ok (.if_icmp .eq 41, 3) := by decide +kernel
theorem dX9_waitsFor_5 : decode cX9_waitsFor 5 = .ok (.aload_n 0, 1) := by decide +kernel
theorem dX9_waitsFor_6 : decode cX9_waitsFor 6 = .ok (.iload_n 2, 1) := by decide +kernel
theorem dX9_waitsFor_7 : decode cX9_waitsFor 7 = .ok (.invokevirtual 219, 3) := by decide +kernel
theorem dX9_waitsFor_10 : decode cX9_waitsFor 10 = .ok (.ifCond .eq 33, 3) := by decide +kernel
theorem dX9_waitsFor_13 : decode cX9_waitsFor 13 = .ok (.aload_n 0, 1) := by decide +kernel
theorem dX9_waitsFor_14 : decode cX9_waitsFor 14 = .ok (.iload_n 2, 1) := by decide +kernel
theorem dX9_waitsFor_15 : decode cX9_waitsFor 15 = .ok (.aload_n 0, 1) := by decide +kernel
theorem dX9_waitsFor_16 : decode cX9_waitsFor 16 = .ok (.getfield 47, 3) := by decide +kernel
theorem dX9_waitsFor_19 : decode cX9_waitsFor 19 = .ok (.iload_n 1, 1) := by decide +kernel
theorem dX9_waitsFor_20 : decode cX9_waitsFor 20 = .ok (.iaload, 1) := by decide +kernel
theorem dX9_waitsFor_21 : decode cX9_waitsFor 21 = .ok (.aload_n 0, 1) := by decide +kernel
theorem dX9_waitsFor_22 : decode cX9_waitsFor 22 = .ok (.getfield 41, 3) := by decide +kernel
theorem dX9_waitsFor_25 : decode cX9_waitsFor 25 = .ok (.iload_n 1, 1) := by decide +kernel
theorem dX9_waitsFor_26 : decode cX9_waitsFor 26 = .ok (.iaload, 1) := by decide +kernel
theorem dX9_waitsFor_27 : decode cX9_waitsFor 27 = .ok (.aload_n 0, 1) := by decide +kernel
theorem dX9_waitsFor_28 : decode cX9_waitsFor 28 = .ok (.getfield 44, 3) := by decide +kernel
theorem dX9_waitsFor_31 : decode cX9_waitsFor 31 = .ok (.iload_n 1, 1) := by decide +kernel
theorem dX9_waitsFor_32 : decode cX9_waitsFor 32 = .ok (.iaload, 1) := by decide +kernel
theorem dX9_waitsFor_33 : decode cX9_waitsFor 33 = .ok (.invokevirtual 222, 3) := by decide +kernel
theorem dX9_waitsFor_36 : decode cX9_waitsFor 36 = .ok (.ifCond .ne 7, 3) := by decide +kernel
theorem dX9_waitsFor_39 : decode cX9_waitsFor 39 = .ok (.iconst 1, 1) := by decide +kernel
theorem dX9_waitsFor_40 : decode cX9_waitsFor 40 = .ok (.goto 4, 3) := by decide +kernel
theorem dX9_waitsFor_43 : decode cX9_waitsFor 43 = .ok (.iconst 0, 1) := by decide +kernel
theorem dX9_waitsFor_44 : decode cX9_waitsFor 44 = .ok (.ireturn, 1) := by decide +kernel
theorem dX9_waitsMany_0 : decode cX9_waitsMany 0 = .ok (.iconst 0, 1) := by decide +kernel
theorem dX9_waitsMany_1 : decode cX9_waitsMany 1 = .ok (.istore_n 2, 1) := by decide +kernel
theorem dX9_waitsMany_2 : decode cX9_waitsMany 2 = .ok (.iconst 0, 1) := by decide +kernel
theorem dX9_waitsMany_3 : decode cX9_waitsMany 3 = .ok (.istore_n 3, 1) := by decide +kernel
theorem dX9_waitsMany_4 : decode cX9_waitsMany 4 = .ok (.iload_n 3, 1) := by decide +kernel
theorem dX9_waitsMany_5 : decode cX9_waitsMany 5 = .ok (.aload_n 0, 1) := by decide +kernel
theorem dX9_waitsMany_6 : decode cX9_waitsMany 6 = .ok (.getfield 7, 3) := by decide +kernel
theorem dX9_waitsMany_9 : decode cX9_waitsMany 9 = .ok (.bipush 7, 2) := by decide +kernel
theorem dX9_waitsMany_11 : decode cX9_waitsMany 11 = .ok (.iaload, 1) := by decide +kernel
theorem dX9_waitsMany_12 : decode cX9_waitsMany 12 = .ok (.if_icmp .ge 22, 3) := by decide +kernel
theorem dX9_waitsMany_15 : decode cX9_waitsMany 15 = .ok (.aload_n 0, 1) := by decide +kernel
theorem dX9_waitsMany_16 : decode cX9_waitsMany 16 = .ok (.iload_n 1, 1) := by decide +kernel
theorem dX9_waitsMany_17 : decode cX9_waitsMany 17 = .ok (.iload_n 3, 1) := by decide +kernel
theorem dX9_waitsMany_18 : decode cX9_waitsMany 18 = .ok (.invokevirtual 329, 3) := by decide +kernel
theorem dX9_waitsMany_21 : decode cX9_waitsMany 21 = .ok (.ifCond .eq 7, 3) := by decide +kernel
theorem dX9_waitsMany_24 : decode cX9_waitsMany 24 = .ok (.iload_n 2, 1) := by decide +kernel
theorem dX9_waitsMany_25 : decode cX9_waitsMany 25 = .ok (.iconst 1, 1) := by decide +kernel
theorem dX9_waitsMany_26 : decode cX9_waitsMany 26 = .ok (.iadd, 1) := by decide +kernel
theorem dX9_waitsMany_27 : decode cX9_waitsMany 27 = .ok (.istore_n 2, 1) := by decide +kernel
theorem dX9_waitsMany_28 : decode cX9_waitsMany 28 = .ok (.iinc 3 1, 3) := by decide +kernel
theorem dX9_waitsMany_31 : decode cX9_waitsMany 31 = .ok (.goto (-27), 3) := by decide +kernel
theorem dX9_waitsMany_34 : decode cX9_waitsMany 34 = .ok (.iload_n 2, 1) := by decide +kernel
theorem dX9_waitsMany_35 : decode cX9_waitsMany 35 = .ok (.ireturn, 1) := by decide +kernel
theorem dX9_nextMove_0 : decode cX9_nextMove 0 = .ok (.iconst 0, 1) := by decide +kernel
theorem dX9_nextMove_1 : decode cX9_nextMove 1 = .ok (.istore_n 1, 1) := by decide +kernel
theorem dX9_nextMove_2 : decode cX9_nextMove 2 = .ok (.iload_n 1, 1) := by decide +kernel
theorem dX9_nextMove_3 : decode cX9_nextMove 3 = .ok (.aload_n 0, 1) := by decide +kernel
theorem dX9_nextMove_4 : decode cX9_nextMove 4 = .ok (.getfield 7, 3) := by decide +kernel
theorem dX9_nextMove_7 : decode cX9_nextMove 7 = .ok (.bipush 7, 2) := by decide +kernel
theorem dX9_nextMove_9 : decode cX9_nextMove 9 = .ok (.iaload, 1) := by decide +kernel
theorem dX9_nextMove_10 : decode cX9_nextMove 10 = .ok (.if_icmp .ge 27, 3) := by decide +kernel
theorem dX9_nextMove_13 : decode cX9_nextMove 13 = .ok (.aload_n 0, 1) := by decide +kernel
theorem dX9_nextMove_14 : decode cX9_nextMove 14 = .ok (.iload_n 1, 1) := by decide +kernel
theorem dX9_nextMove_15 : decode cX9_nextMove 15 = .ok (.invokevirtual 332, 3) := by decide +kernel
theorem dX9_nextMove_18 : decode cX9_nextMove 18 = .ok (.ifCond .eq 13, 3) := by decide +kernel
theorem dX9_nextMove_21 : decode cX9_nextMove 21 = .ok (.aload_n 0, 1) := by decide +kernel
theorem dX9_nextMove_22 : decode cX9_nextMove 22 = .ok (.iload_n 1, 1) := by decide +kernel
theorem dX9_nextMove_23 : decode cX9_nextMove 23 = .ok (.invokevirtual 335, 3) := by decide +kernel
theorem dX9_nextMove_26 : decode cX9_nextMove 26 = .ok (.ifCond .ne 5, 3) := by decide +kernel
theorem dX9_nextMove_29 : decode cX9_nextMove 29 = .ok (.iload_n 1, 1) := by decide +kernel
theorem dX9_nextMove_30 : decode cX9_nextMove 30 = .ok (.ireturn, 1) := by decide +kernel
theorem dX9_nextMove_31 : decode cX9_nextMove 31 = .ok (.iinc 1 1, 3) := by decide +kernel
theorem dX9_nextMove_34 : decode cX9_nextMove 34 = .ok (.goto (-32), 3) := by decide +kernel
theorem dX9_nextMove_37 : decode cX9_nextMove 37 = .ok (.iconst (-1), 1) := by decide +kernel
theorem dX9_nextMove_38 : decode cX9_nextMove 38 = .ok (.ireturn, 1) := by decide +kernel
theorem dX9_plans_0 : decode cX9_plans 0 = .ok (.aload_n 0, 1) := by decide +kernel
theorem dX9_plans_1 : decode cX9_plans 1 = .ok (.invokevirtual 338, 3) := by decide +kernel
theorem dX9_plans_4 : decode cX9_plans 4 = .ok (.istore_n 1, 1) := by decide +kernel
theorem dX9_plans_5 : decode cX9_plans 5 = .ok (.iload_n 1, 1) := by decide +kernel
theorem dX9_plans_6 : decode cX9_plans 6 = .ok (.iconst (-1), 1) := by decide +kernel
theorem dX9_plans_7 : decode cX9_plans 7 = .ok (.if_icmp .eq 75, 3) := by decide +kernel
theorem dX9_plans_10 : decode cX9_plans 10 = .ok (.aload_n 0, 1) := by decide +kernel
theorem dX9_plans_11 : decode cX9_plans 11 = .ok (.iload_n 1, 1) := by decide +kernel
theorem dX9_plans_12 : decode cX9_plans 12 = .ok (.iconst 4, 1) := by decide +kernel
theorem dX9_plans_13 : decode cX9_plans 13 = .ok (.aload_n 0, 1) := by decide +kernel
theorem dX9_plans_14 : decode cX9_plans 14 = .ok (.getfield 41, 3) := by decide +kernel
theorem dX9_plans_17 : decode cX9_plans 17 = .ok (.iload_n 1, 1) := by decide +kernel
theorem dX9_plans_18 : decode cX9_plans 18 = .ok (.iaload, 1) := by decide +kernel
theorem dX9_plans_19 : decode cX9_plans 19 = .ok (.invokevirtual 256, 3) := by decide +kernel
theorem dX9_plans_22 : decode cX9_plans 22 = .ok (.aload_n 0, 1) := by decide +kernel
theorem dX9_plans_23 : decode cX9_plans 23 = .ok (.iload_n 1, 1) := by decide +kernel
theorem dX9_plans_24 : decode cX9_plans 24 = .ok (.iconst 5, 1) := by decide +kernel
theorem dX9_plans_25 : decode cX9_plans 25 = .ok (.aload_n 0, 1) := by decide +kernel
theorem dX9_plans_26 : decode cX9_plans 26 = .ok (.getfield 44, 3) := by decide +kernel
theorem dX9_plans_29 : decode cX9_plans 29 = .ok (.iload_n 1, 1) := by decide +kernel
theorem dX9_plans_30 : decode cX9_plans 30 = .ok (.iaload, 1) := by decide +kernel
theorem dX9_plans_31 : decode cX9_plans 31 = .ok (.invokevirtual 256, 3) := by decide +kernel
theorem dX9_plans_34 : decode cX9_plans 34 = .ok (.aload_n 0, 1) := by decide +kernel
theorem dX9_plans_35 : decode cX9_plans 35 = .ok (.iload_n 1, 1) := by decide +kernel
theorem dX9_plans_36 : decode cX9_plans 36 = .ok (.bipush 6, 2) := by decide +kernel
theorem dX9_plans_38 : decode cX9_plans 38 = .ok (.aload_n 0, 1) := by decide +kernel
theorem dX9_plans_39 : decode cX9_plans 39 = .ok (.getfield 47, 3) := by decide +kernel
theorem dX9_plans_42 : decode cX9_plans 42 = .ok (.iload_n 1, 1) := by decide +kernel
theorem dX9_plans_43 : decode cX9_plans 43 = .ok (.iaload, 1) := by decide +kernel
theorem dX9_plans_44 : decode cX9_plans 44 = .ok (.invokevirtual 256, 3) := by decide +kernel
theorem dX9_plans_47 : decode cX9_plans 47 = .ok (.aload_n 0, 1) := by decide +kernel
theorem dX9_plans_48 : decode cX9_plans 48 = .ok (.getfield 57, 3) := by decide +kernel
theorem dX9_plans_51 : decode cX9_plans 51 = .ok (.iload_n 1, 1) := by decide +kernel
theorem dX9_plans_52 : decode cX9_plans 52 = .ok (.iconst 1, 1) := by decide +kernel
theorem dX9_plans_53 : decode cX9_plans 53 = .ok (.bastore, 1) := by decide +kernel
theorem dX9_plans_54 : decode cX9_plans 54 = .ok (.aload_n 0, 1) := by decide +kernel
theorem dX9_plans_55 : decode cX9_plans 55 = .ok (.getfield 50, 3) := by decide +kernel
theorem dX9_plans_58 : decode cX9_plans 58 = .ok (.aload_n 0, 1) := by decide +kernel
theorem dX9_plans_59 : decode cX9_plans 59 = .ok (.getfield 323, 3) := by decide +kernel
theorem dX9_plans_62 : decode cX9_plans 62 = .ok (.iload_n 1, 1) := by decide +kernel
theorem dX9_plans_63 : decode cX9_plans 63 = .ok (.iastore, 1) := by decide +kernel
theorem dX9_plans_64 : decode cX9_plans 64 = .ok (.aload_n 0, 1) := by decide +kernel
theorem dX9_plans_65 : decode cX9_plans 65 = .ok (.aload_n 0, 1) := by decide +kernel
theorem dX9_plans_66 : decode cX9_plans 66 = .ok (.getfield 323, 3) := by decide +kernel
theorem dX9_plans_69 : decode cX9_plans 69 = .ok (.iconst 1, 1) := by decide +kernel
theorem dX9_plans_70 : decode cX9_plans 70 = .ok (.iadd, 1) := by decide +kernel
theorem dX9_plans_71 : decode cX9_plans 71 = .ok (.putfield 323, 3) := by decide +kernel
theorem dX9_plans_74 : decode cX9_plans 74 = .ok (.aload_n 0, 1) := by decide +kernel
theorem dX9_plans_75 : decode cX9_plans 75 = .ok (.invokevirtual 338, 3) := by decide +kernel
theorem dX9_plans_78 : decode cX9_plans 78 = .ok (.istore_n 1, 1) := by decide +kernel
theorem dX9_plans_79 : decode cX9_plans 79 = .ok (.goto (-74), 3) := by decide +kernel
theorem dX9_plans_82 : decode cX9_plans 82 = .ok (.return_, 1) := by decide +kernel
theorem dX9_plan_0 : decode cX9_plan 0 = .ok (.iload_n 1, 1) := by decide +kernel
theorem dX9_plan_1 : decode cX9_plan 1 = .ok (.invokestatic 265, 3) := by decide +kernel
theorem dX9_plan_4 : decode cX9_plan 4 = .ok (.ifCond .ne 5, 3) := by decide +kernel
theorem dX9_plan_7 : decode cX9_plan 7 = .ok (.iconst (-1), 1) := by decide +kernel
theorem dX9_plan_8 : decode cX9_plan 8 = .ok (.ireturn, 1) := by decide +kernel
theorem dX9_plan_9 : decode cX9_plan 9 = .ok (.aload_n 0, 1) := by decide +kernel
theorem dX9_plan_10 : decode cX9_plan 10 = .ok (.iload_n 1, 1) := by decide +kernel
theorem dX9_plan_11 : decode cX9_plan 11 = .ok (.invokevirtual 341, 3) := by decide +kernel
theorem dX9_plan_14 : decode cX9_plan 14 = .ok (.ifCond .ne 6, 3) := by decide +kernel
theorem dX9_plan_17 : decode cX9_plan 17 = .ok (.bipush (-2), 2) := by decide +kernel
theorem dX9_plan_19 : decode cX9_plan 19 = .ok (.ireturn, 1) := by decide +kernel
theorem dX9_plan_20 : decode cX9_plan 20 = .ok (.aload_n 0, 1) := by decide +kernel
theorem dX9_plan_21 : decode cX9_plan 21 = .ok (.invokevirtual 344, 3) := by decide +kernel
theorem dX9_plan_24 : decode cX9_plan 24 = .ok (.aload_n 0, 1) := by decide +kernel
theorem dX9_plan_25 : decode cX9_plan 25 = .ok (.getfield 323, 3) := by decide +kernel
theorem dX9_plan_28 : decode cX9_plan 28 = .ok (.ireturn, 1) := by decide +kernel
theorem dX9_rounds_0 : decode cX9_rounds 0 = .ok (.aload_n 0, 1) := by decide +kernel
theorem dX9_rounds_1 : decode cX9_rounds 1 = .ok (.getfield 7, 3) := by decide +kernel
theorem dX9_rounds_4 : decode cX9_rounds 4 = .ok (.bipush 7, 2) := by decide +kernel
theorem dX9_rounds_6 : decode cX9_rounds 6 = .ok (.iaload, 1) := by decide +kernel
theorem dX9_rounds_7 : decode cX9_rounds 7 = .ok (.istore_n 1, 1) := by decide +kernel
theorem dX9_rounds_8 : decode cX9_rounds 8 = .ok (.iconst 0, 1) := by decide +kernel
theorem dX9_rounds_9 : decode cX9_rounds 9 = .ok (.istore_n 2, 1) := by decide +kernel
theorem dX9_rounds_10 : decode cX9_rounds 10 = .ok (.iload_n 2, 1) := by decide +kernel
theorem dX9_rounds_11 : decode cX9_rounds 11 = .ok (.iload_n 1, 1) := by decide +kernel
theorem dX9_rounds_12 : decode cX9_rounds 12 = .ok (.if_icmp .ge 63, 3) := by decide +kernel
theorem dX9_rounds_15 : decode cX9_rounds 15 = .ok (.iconst 0, 1) := by decide +kernel
theorem dX9_rounds_16 : decode cX9_rounds 16 = .ok (.istore_n 3, 1) := by decide +kernel
theorem dX9_rounds_17 : decode cX9_rounds 17 = .ok (.iload_n 3, 1) := by decide +kernel
theorem dX9_rounds_18 : decode cX9_rounds 18 = .ok (.iload_n 1, 1) := by decide +kernel
theorem dX9_rounds_19 : decode cX9_rounds 19 = .ok (.if_icmp .ge 50, 3) := by decide +kernel
theorem dX9_rounds_22 : decode cX9_rounds 22 = .ok (.aload_n 0, 1) := by decide +kernel
theorem dX9_rounds_23 : decode cX9_rounds 23 = .ok (.getfield 63, 3) := by decide +kernel
theorem dX9_rounds_26 : decode cX9_rounds 26 = .ok (.bipush 40, 2) := by decide +kernel
theorem dX9_rounds_28 : decode cX9_rounds 28 = .ok (.iload_n 2, 1) := by decide +kernel
theorem dX9_rounds_29 : decode cX9_rounds 29 = .ok (.imul, 1) := by decide +kernel
theorem dX9_rounds_30 : decode cX9_rounds 30 = .ok (.iload_n 3, 1) := by decide +kernel
theorem dX9_rounds_31 : decode cX9_rounds 31 = .ok (.iadd, 1) := by decide +kernel
theorem dX9_rounds_32 : decode cX9_rounds 32 = .ok (.aload_n 0, 1) := by decide +kernel
theorem dX9_rounds_33 : decode cX9_rounds 33 = .ok (.iload_n 2, 1) := by decide +kernel
theorem dX9_rounds_34 : decode cX9_rounds 34 = .ok (.invokevirtual 332, 3) := by decide +kernel
theorem dX9_rounds_37 : decode cX9_rounds 37 = .ok (.ifCond .eq 24, 3) := by decide +kernel
theorem dX9_rounds_40 : decode cX9_rounds 40 = .ok (.aload_n 0, 1) := by decide +kernel
theorem dX9_rounds_41 : decode cX9_rounds 41 = .ok (.iload_n 3, 1) := by decide +kernel
theorem dX9_rounds_42 : decode cX9_rounds 42 = .ok (.invokevirtual 332, 3) := by decide +kernel
theorem dX9_rounds_45 : decode cX9_rounds 45 = .ok (.ifCond .eq 16, 3) := by decide +kernel
theorem dX9_rounds_48 : decode cX9_rounds 48 = .ok (.aload_n 0, 1) := by decide +kernel
theorem dX9_rounds_49 : decode cX9_rounds 49 = .ok (.iload_n 2, 1) := by decide +kernel
theorem dX9_rounds_50 : decode cX9_rounds 50 = .ok (.iload_n 3, 1) := by decide +kernel
theorem dX9_rounds_51 : decode cX9_rounds 51 = .ok (.invokevirtual 329, 3) := by decide +kernel
theorem dX9_rounds_54 : decode cX9_rounds 54 = .ok (.ifCond .eq 7, 3) := by decide +kernel
theorem dX9_rounds_57 : decode cX9_rounds 57 = .ok (.iconst 1, 1) := by decide +kernel
theorem dX9_rounds_58 : decode cX9_rounds 58 = .ok (.goto 4, 3) := by decide +kernel
theorem dX9_rounds_61 : decode cX9_rounds 61 = .ok (.iconst 0, 1) := by decide +kernel
theorem dX9_rounds_62 : decode cX9_rounds 62 = .ok (.bastore, 1) := by decide +kernel
theorem dX9_rounds_63 : decode cX9_rounds 63 = .ok (.iinc 3 1, 3) := by decide +kernel
theorem dX9_rounds_66 : decode cX9_rounds 66 = .ok (.goto (-49), 3) := by decide +kernel
theorem dX9_rounds_69 : decode cX9_rounds 69 = .ok (.iinc 2 1, 3) := by decide +kernel
theorem dX9_rounds_72 : decode cX9_rounds 72 = .ok (.goto (-62), 3) := by decide +kernel
theorem dX9_rounds_75 : decode cX9_rounds 75 = .ok (.iconst 0, 1) := by decide +kernel
theorem dX9_rounds_76 : decode cX9_rounds 76 = .ok (.istore_n 2, 1) := by decide +kernel
theorem dX9_rounds_77 : decode cX9_rounds 77 = .ok (.iload_n 2, 1) := by decide +kernel
theorem dX9_rounds_78 : decode cX9_rounds 78 = .ok (.iload_n 1, 1) := by decide +kernel
theorem dX9_rounds_79 : decode cX9_rounds 79 = .ok (.if_icmp .ge 79, 3) := by decide +kernel
theorem dX9_rounds_82 : decode cX9_rounds 82 = .ok (.iconst 0, 1) := by decide +kernel
theorem dX9_rounds_83 : decode cX9_rounds 83 = .ok (.istore_n 3, 1) := by decide +kernel
theorem dX9_rounds_84 : decode cX9_rounds 84 = .ok (.iload_n 3, 1) := by decide +kernel
theorem dX9_rounds_85 : decode cX9_rounds 85 = .ok (.iload_n 1, 1) := by decide +kernel
theorem dX9_rounds_86 : decode cX9_rounds 86 = .ok (.if_icmp .ge 66, 3) := by decide +kernel
theorem dX9_rounds_89 : decode cX9_rounds 89 = .ok (.iconst 0, 1) := by decide +kernel
theorem dX9_rounds_90 : decode cX9_rounds 90 = .ok (.istore 4, 2) := by decide +kernel
theorem dX9_rounds_92 : decode cX9_rounds 92 = .ok (.iload 4, 2) := by decide +kernel
theorem dX9_rounds_94 : decode cX9_rounds 94 = .ok (.iload_n 1, 1) := by decide +kernel
theorem dX9_rounds_95 : decode cX9_rounds 95 = .ok (.if_icmp .ge 51, 3) := by decide +kernel
theorem dX9_rounds_98 : decode cX9_rounds 98 = .ok (.aload_n 0, 1) := by decide +kernel
theorem dX9_rounds_99 : decode cX9_rounds 99 = .ok (.getfield 63, 3) := by decide +kernel
theorem dX9_rounds_102 : decode cX9_rounds 102 = .ok (.bipush 40, 2) := by decide +kernel
theorem dX9_rounds_104 : decode cX9_rounds 104 = .ok (.iload_n 3, 1) := by decide +kernel
theorem dX9_rounds_105 : decode cX9_rounds 105 = .ok (.imul, 1) := by decide +kernel
theorem dX9_rounds_106 : decode cX9_rounds 106 = .ok (.iload_n 2, 1) := by decide +kernel
theorem dX9_rounds_107 : decode cX9_rounds 107 = .ok (.iadd, 1) := by decide +kernel
theorem dX9_rounds_108 : decode cX9_rounds 108 = .ok (.baload, 1) := by decide +kernel
theorem dX9_rounds_109 : decode cX9_rounds 109 = .ok (.ifCond .eq 31, 3) := by decide +kernel
theorem dX9_rounds_112 : decode cX9_rounds 112 = .ok (.aload_n 0, 1) := by decide +kernel
theorem dX9_rounds_113 : decode cX9_rounds 113 = .ok (.getfield 63, 3) := by decide +kernel
theorem dX9_rounds_116 : decode cX9_rounds 116 = .ok (.bipush 40, 2) := by decide +kernel
theorem dX9_rounds_118 : decode cX9_rounds 118 = .ok (.iload_n 2, 1) := by decide +kernel
theorem dX9_rounds_119 : decode cX9_rounds 119 = .ok (.imul, 1) := by decide +kernel
theorem dX9_rounds_120 : decode cX9_rounds 120 = .ok (.iload 4, 2) := by decide +kernel
theorem dX9_rounds_122 : decode cX9_rounds 122 = .ok (.iadd, 1) := by decide +kernel
theorem dX9_rounds_123 : decode cX9_rounds 123 = .ok (.baload, 1) := by decide +kernel
theorem dX9_rounds_124 : decode cX9_rounds 124 = .ok (.ifCond .eq 16, 3) := by decide +kernel
theorem dX9_rounds_127 : decode cX9_rounds 127 = .ok (.aload_n 0, 1) := by decide +kernel
theorem dX9_rounds_128 : decode cX9_rounds 128 = .ok (.getfield 63, 3) := by decide +kernel
theorem dX9_rounds_131 : decode cX9_rounds 131 = .ok (.bipush 40, 2) := by decide +kernel
theorem dX9_rounds_133 : decode cX9_rounds 133 = .ok (.iload_n 3, 1) := by decide +kernel
theorem dX9_rounds_134 : decode cX9_rounds 134 = .ok (.imul, 1) := by decide +kernel
theorem dX9_rounds_135 : decode cX9_rounds 135 = .ok (.iload 4, 2) := by decide +kernel
theorem dX9_rounds_137 : decode cX9_rounds 137 = .ok (.iadd, 1) := by decide +kernel
theorem dX9_rounds_138 : decode cX9_rounds 138 = .ok (.iconst 1, 1) := by decide +kernel
theorem dX9_rounds_139 : decode cX9_rounds 139 = .ok (.bastore, 1) := by decide +kernel
theorem dX9_rounds_140 : decode cX9_rounds 140 = .ok (.iinc 4 1, 3) := by decide +kernel
theorem dX9_rounds_143 : decode cX9_rounds 143 = .ok (.goto (-51), 3) := by decide +kernel
theorem dX9_rounds_146 : decode cX9_rounds 146 = .ok (.iinc 3 1, 3) := by decide +kernel
theorem dX9_rounds_149 : decode cX9_rounds 149 = .ok (.goto (-65), 3) := by decide +kernel
theorem dX9_rounds_152 : decode cX9_rounds 152 = .ok (.iinc 2 1, 3) := by decide +kernel
theorem dX9_rounds_155 : decode cX9_rounds 155 = .ok (.goto (-78), 3) := by decide +kernel
theorem dX9_rounds_158 : decode cX9_rounds 158 = .ok (.iconst 0, 1) := by decide +kernel
theorem dX9_rounds_159 : decode cX9_rounds 159 = .ok (.istore_n 2, 1) := by decide +kernel
theorem dX9_rounds_160 : decode cX9_rounds 160 = .ok (.iconst 0, 1) := by decide +kernel
theorem dX9_rounds_161 : decode cX9_rounds 161 = .ok (.istore_n 3, 1) := by decide +kernel
theorem dX9_rounds_162 : decode cX9_rounds 162 = .ok (.iload_n 3, 1) := by decide +kernel
theorem dX9_rounds_163 : decode cX9_rounds 163 = .ok (.iload_n 1, 1) := by decide +kernel
theorem dX9_rounds_164 : decode cX9_rounds 164 = .ok (.if_icmp .ge 25, 3) := by decide +kernel
theorem dX9_rounds_167 : decode cX9_rounds 167 = .ok (.aload_n 0, 1) := by decide +kernel
theorem dX9_rounds_168 : decode cX9_rounds 168 = .ok (.getfield 63, 3) := by decide +kernel
theorem dX9_rounds_171 : decode cX9_rounds 171 = .ok (.bipush 41, 2) := by decide +kernel
theorem dX9_rounds_173 : decode cX9_rounds 173 = .ok (.iload_n 3, 1) := by decide +kernel
theorem dX9_rounds_174 : decode cX9_rounds 174 = .ok (.imul, 1) := by decide +kernel
theorem dX9_rounds_175 : decode cX9_rounds 175 = .ok (.baload, 1) := by decide +kernel
theorem dX9_rounds_176 : decode cX9_rounds 176 = .ok (.ifCond .eq 7, 3) := by decide +kernel
theorem dX9_rounds_179 : decode cX9_rounds 179 = .ok (.iload_n 2, 1) := by decide +kernel
theorem dX9_rounds_180 : decode cX9_rounds 180 = .ok (.iconst 1, 1) := by decide +kernel
theorem dX9_rounds_181 : decode cX9_rounds 181 = .ok (.iadd, 1) := by decide +kernel
theorem dX9_rounds_182 : decode cX9_rounds 182 = .ok (.istore_n 2, 1) := by decide +kernel
theorem dX9_rounds_183 : decode cX9_rounds 183 = .ok (.iinc 3 1, 3) := by decide +kernel
theorem dX9_rounds_186 : decode cX9_rounds 186 = .ok (.goto (-24), 3) := by decide +kernel
theorem dX9_rounds_189 : decode cX9_rounds 189 = .ok (.iload_n 2, 1) := by decide +kernel
theorem dX9_rounds_190 : decode cX9_rounds 190 = .ok (.ireturn, 1) := by decide +kernel
theorem dX9_repack_0 : decode cX9_repack 0 = .ok (.iload_n 1, 1) := by decide +kernel
theorem dX9_repack_1 : decode cX9_repack 1 = .ok (.invokestatic 265, 3) := by decide +kernel
theorem dX9_repack_4 : decode cX9_repack 4 = .ok (.ifCond .eq 12, 3) := by decide +kernel
theorem dX9_repack_7 : decode cX9_repack 7 = .ok (.iload_n 2, 1) := by decide +kernel
theorem dX9_repack_8 : decode cX9_repack 8 = .ok (.iconst 0, 1) := by decide +kernel
theorem dX9_repack_9 : decode cX9_repack 9 = .ok (.iconst 5, 1) := by decide +kernel
theorem dX9_repack_10 : decode cX9_repack 10 = .ok (.invokestatic 83, 3) := by decide +kernel
theorem dX9_repack_13 : decode cX9_repack 13 = .ok (.ifCond .ne 5, 3) := by decide +kernel
theorem dX9_repack_16 : decode cX9_repack 16 = .ok (.iconst (-1), 1) := by decide +kernel
theorem dX9_repack_17 : decode cX9_repack 17 = .ok (.ireturn, 1) := by decide +kernel
theorem dX9_repack_18 : decode cX9_repack 18 = .ok (.aload_n 0, 1) := by decide +kernel
theorem dX9_repack_19 : decode cX9_repack 19 = .ok (.iload_n 1, 1) := by decide +kernel
theorem dX9_repack_20 : decode cX9_repack 20 = .ok (.invokevirtual 341, 3) := by decide +kernel
theorem dX9_repack_23 : decode cX9_repack 23 = .ok (.ifCond .ne 6, 3) := by decide +kernel
theorem dX9_repack_26 : decode cX9_repack 26 = .ok (.bipush (-2), 2) := by decide +kernel
theorem dX9_repack_28 : decode cX9_repack 28 = .ok (.ireturn, 1) := by decide +kernel
theorem dX9_repack_29 : decode cX9_repack 29 = .ok (.aload_n 0, 1) := by decide +kernel
theorem dX9_repack_30 : decode cX9_repack 30 = .ok (.iconst 0, 1) := by decide +kernel
theorem dX9_repack_31 : decode cX9_repack 31 = .ok (.iconst 3, 1) := by decide +kernel
theorem dX9_repack_32 : decode cX9_repack 32 = .ok (.invokevirtual 311, 3) := by decide +kernel
theorem dX9_repack_35 : decode cX9_repack 35 = .ok (.aload_n 0, 1) := by decide +kernel
theorem dX9_repack_36 : decode cX9_repack 36 = .ok (.invokevirtual 344, 3) := by decide +kernel
theorem dX9_repack_39 : decode cX9_repack 39 = .ok (.aload_n 0, 1) := by decide +kernel
theorem dX9_repack_40 : decode cX9_repack 40 = .ok (.invokevirtual 317, 3) := by decide +kernel
theorem dX9_repack_43 : decode cX9_repack 43 = .ok (.istore_n 3, 1) := by decide +kernel
theorem dX9_repack_44 : decode cX9_repack 44 = .ok (.aload_n 0, 1) := by decide +kernel
theorem dX9_repack_45 : decode cX9_repack 45 = .ok (.invokevirtual 347, 3) := by decide +kernel
theorem dX9_repack_48 : decode cX9_repack 48 = .ok (.istore 4, 2) := by decide +kernel
theorem dX9_repack_50 : decode cX9_repack 50 = .ok (.aload_n 0, 1) := by decide +kernel
theorem dX9_repack_51 : decode cX9_repack 51 = .ok (.iconst 3, 1) := by decide +kernel
theorem dX9_repack_52 : decode cX9_repack 52 = .ok (.iconst 0, 1) := by decide +kernel
theorem dX9_repack_53 : decode cX9_repack 53 = .ok (.invokevirtual 311, 3) := by decide +kernel
theorem dX9_repack_56 : decode cX9_repack 56 = .ok (.iload_n 2, 1) := by decide +kernel
theorem dX9_repack_57 : decode cX9_repack 57 = .ok (.tableswitch 62 0 4 #[35, 40, 45, 50, 60], 35) := by decide +kernel
theorem dX9_repack_92 : decode cX9_repack 92 = .ok (.aload_n 0, 1) := by decide +kernel
theorem dX9_repack_93 : decode cX9_repack 93 = .ok (.getfield 320, 3) := by decide +kernel
theorem dX9_repack_96 : decode cX9_repack 96 = .ok (.ireturn, 1) := by decide +kernel
theorem dX9_repack_97 : decode cX9_repack 97 = .ok (.aload_n 0, 1) := by decide +kernel
theorem dX9_repack_98 : decode cX9_repack 98 = .ok (.getfield 314, 3) := by decide +kernel
theorem dX9_repack_101 : decode cX9_repack 101 = .ok (.ireturn, 1) := by decide +kernel
theorem dX9_repack_102 : decode cX9_repack 102 = .ok (.aload_n 0, 1) := by decide +kernel
theorem dX9_repack_103 : decode cX9_repack 103 = .ok (.getfield 323, 3) := by decide +kernel
theorem dX9_repack_106 : decode cX9_repack 106 = .ok (.ireturn, 1) := by decide +kernel
theorem dX9_repack_107 : decode cX9_repack 107 = .ok (.aload_n 0, 1) := by decide +kernel
theorem dX9_repack_108 : decode cX9_repack 108 = .ok (.getfield 314, 3) := by decide +kernel
theorem dX9_repack_111 : decode cX9_repack 111 = .ok (.aload_n 0, 1) := by decide +kernel
theorem dX9_repack_112 : decode cX9_repack 112 = .ok (.getfield 323, 3) := by decide +kernel
theorem dX9_repack_115 : decode cX9_repack 115 = .ok (.isub, 1) := by decide +kernel
theorem dX9_repack_116 : decode cX9_repack 116 = .ok (.ireturn, 1) := by decide +kernel
theorem dX9_repack_117 : decode cX9_repack 117 = .ok (.iload_n 3, 1) := by decide +kernel
theorem dX9_repack_118 : decode cX9_repack 118 = .ok (.ireturn, 1) := by decide +kernel
theorem dX9_repack_119 : decode cX9_repack 119 = .ok (.iload 4, 2) := by decide +kernel
theorem dX9_repack_121 : decode cX9_repack 121 = .ok (.ireturn, 1) := by decide +kernel
theorem dX9_planned_0 : decode cX9_planned 0 = .ok (.iload_n 1, 1) := by decide +kernel
theorem dX9_planned_1 : decode cX9_planned 1 = .ok (.invokestatic 265, 3) := by decide +kernel
theorem dX9_planned_4 : decode cX9_planned 4 = .ok (.ifCond .eq 16, 3) := by decide +kernel
theorem dX9_planned_7 : decode cX9_planned 7 = .ok (.iload_n 2, 1) := by decide +kernel
theorem dX9_planned_8 : decode cX9_planned 8 = .ok (.ifCond .lt 12, 3) := by decide +kernel
theorem dX9_planned_11 : decode cX9_planned 11 = .ok (.iload_n 3, 1) := by decide +kernel
theorem dX9_planned_12 : decode cX9_planned 12 = .ok (.iconst 0, 1) := by decide +kernel
theorem dX9_planned_13 : decode cX9_planned 13 = .ok (.iconst 2, 1) := by decide +kernel
theorem dX9_planned_14 : decode cX9_planned 14 = .ok (.invokestatic 83, 3) := by decide +kernel
theorem dX9_planned_17 : decode cX9_planned 17 = .ok (.ifCond .ne 5, 3) := by decide +kernel
theorem dX9_planned_20 : decode cX9_planned 20 = .ok (.iconst (-1), 1) := by decide +kernel
theorem dX9_planned_21 : decode cX9_planned 21 = .ok (.ireturn, 1) := by decide +kernel
theorem dX9_planned_22 : decode cX9_planned 22 = .ok (.aload_n 0, 1) := by decide +kernel
theorem dX9_planned_23 : decode cX9_planned 23 = .ok (.iload_n 1, 1) := by decide +kernel
theorem dX9_planned_24 : decode cX9_planned 24 = .ok (.invokevirtual 341, 3) := by decide +kernel
theorem dX9_planned_27 : decode cX9_planned 27 = .ok (.ifCond .ne 6, 3) := by decide +kernel
theorem dX9_planned_30 : decode cX9_planned 30 = .ok (.bipush (-2), 2) := by decide +kernel
theorem dX9_planned_32 : decode cX9_planned 32 = .ok (.ireturn, 1) := by decide +kernel
theorem dX9_planned_33 : decode cX9_planned 33 = .ok (.aload_n 0, 1) := by decide +kernel
theorem dX9_planned_34 : decode cX9_planned 34 = .ok (.iconst 0, 1) := by decide +kernel
theorem dX9_planned_35 : decode cX9_planned 35 = .ok (.iconst 3, 1) := by decide +kernel
theorem dX9_planned_36 : decode cX9_planned 36 = .ok (.invokevirtual 311, 3) := by decide +kernel
theorem dX9_planned_39 : decode cX9_planned 39 = .ok (.aload_n 0, 1) := by decide +kernel
theorem dX9_planned_40 : decode cX9_planned 40 = .ok (.invokevirtual 344, 3) := by decide +kernel
theorem dX9_planned_43 : decode cX9_planned 43 = .ok (.aload_n 0, 1) := by decide +kernel
theorem dX9_planned_44 : decode cX9_planned 44 = .ok (.iconst 3, 1) := by decide +kernel
theorem dX9_planned_45 : decode cX9_planned 45 = .ok (.iconst 0, 1) := by decide +kernel
theorem dX9_planned_46 : decode cX9_planned 46 = .ok (.invokevirtual 311, 3) := by decide +kernel
theorem dX9_planned_49 : decode cX9_planned 49 = .ok (.iload_n 2, 1) := by decide +kernel
theorem dX9_planned_50 : decode cX9_planned 50 = .ok (.aload_n 0, 1) := by decide +kernel
theorem dX9_planned_51 : decode cX9_planned 51 = .ok (.getfield 323, 3) := by decide +kernel
theorem dX9_planned_54 : decode cX9_planned 54 = .ok (.if_icmp .lt 6, 3) := by decide +kernel
theorem dX9_planned_57 : decode cX9_planned 57 = .ok (.bipush (-4), 2) := by decide +kernel
theorem dX9_planned_59 : decode cX9_planned 59 = .ok (.ireturn, 1) := by decide +kernel
theorem dX9_planned_60 : decode cX9_planned 60 = .ok (.aload_n 0, 1) := by decide +kernel
theorem dX9_planned_61 : decode cX9_planned 61 = .ok (.getfield 50, 3) := by decide +kernel
theorem dX9_planned_64 : decode cX9_planned 64 = .ok (.iload_n 2, 1) := by decide +kernel
theorem dX9_planned_65 : decode cX9_planned 65 = .ok (.iaload, 1) := by decide +kernel
theorem dX9_planned_66 : decode cX9_planned 66 = .ok (.istore 4, 2) := by decide +kernel
theorem dX9_planned_68 : decode cX9_planned 68 = .ok (.iload_n 3, 1) := by decide +kernel
theorem dX9_planned_69 : decode cX9_planned 69 = .ok (.ifCond .ne 8, 3) := by decide +kernel
theorem dX9_planned_72 : decode cX9_planned 72 = .ok (.iload 4, 2) := by decide +kernel
theorem dX9_planned_74 : decode cX9_planned 74 = .ok (.goto 25, 3) := by decide +kernel
theorem dX9_planned_77 : decode cX9_planned 77 = .ok (.iload_n 3, 1) := by decide +kernel
theorem dX9_planned_78 : decode cX9_planned 78 = .ok (.iconst 1, 1) := by decide +kernel
theorem dX9_planned_79 : decode cX9_planned 79 = .ok (.if_icmp .ne 13, 3) := by decide +kernel
theorem dX9_planned_82 : decode cX9_planned 82 = .ok (.aload_n 0, 1) := by decide +kernel
theorem dX9_planned_83 : decode cX9_planned 83 = .ok (.getfield 41, 3) := by decide +kernel
theorem dX9_planned_86 : decode cX9_planned 86 = .ok (.iload 4, 2) := by decide +kernel
theorem dX9_planned_88 : decode cX9_planned 88 = .ok (.iaload, 1) := by decide +kernel
theorem dX9_planned_89 : decode cX9_planned 89 = .ok (.goto 10, 3) := by decide +kernel
theorem dX9_planned_92 : decode cX9_planned 92 = .ok (.aload_n 0, 1) := by decide +kernel
theorem dX9_planned_93 : decode cX9_planned 93 = .ok (.getfield 47, 3) := by decide +kernel
theorem dX9_planned_96 : decode cX9_planned 96 = .ok (.iload 4, 2) := by decide +kernel
theorem dX9_planned_98 : decode cX9_planned 98 = .ok (.iaload, 1) := by decide +kernel
theorem dX9_planned_99 : decode cX9_planned 99 = .ok (.ireturn, 1) := by decide +kernel
theorem dX9_waits_0 : decode cX9_waits 0 = .ok (.iload_n 1, 1) := by decide +kernel
theorem dX9_waits_1 : decode cX9_waits 1 = .ok (.invokestatic 265, 3) := by decide +kernel
theorem dX9_waits_4 : decode cX9_waits 4 = .ok (.ifCond .eq 11, 3) := by decide +kernel
theorem dX9_waits_7 : decode cX9_waits 7 = .ok (.aload_n 0, 1) := by decide +kernel
theorem dX9_waits_8 : decode cX9_waits 8 = .ok (.iload_n 2, 1) := by decide +kernel
theorem dX9_waits_9 : decode cX9_waits 9 = .ok (.invokevirtual 281, 3) := by decide +kernel
theorem dX9_waits_12 : decode cX9_waits 12 = .ok (.ifCond .ne 5, 3) := by decide +kernel
theorem dX9_waits_15 : decode cX9_waits 15 = .ok (.iconst (-1), 1) := by decide +kernel
theorem dX9_waits_16 : decode cX9_waits 16 = .ok (.ireturn, 1) := by decide +kernel
theorem dX9_waits_17 : decode cX9_waits 17 = .ok (.aload_n 0, 1) := by decide +kernel
theorem dX9_waits_18 : decode cX9_waits 18 = .ok (.iload_n 1, 1) := by decide +kernel
theorem dX9_waits_19 : decode cX9_waits 19 = .ok (.invokevirtual 341, 3) := by decide +kernel
theorem dX9_waits_22 : decode cX9_waits 22 = .ok (.ifCond .ne 6, 3) := by decide +kernel
theorem dX9_waits_25 : decode cX9_waits 25 = .ok (.bipush (-2), 2) := by decide +kernel
theorem dX9_waits_27 : decode cX9_waits 27 = .ok (.ireturn, 1) := by decide +kernel
theorem dX9_waits_28 : decode cX9_waits 28 = .ok (.aload_n 0, 1) := by decide +kernel
theorem dX9_waits_29 : decode cX9_waits 29 = .ok (.getfield 53, 3) := by decide +kernel
theorem dX9_waits_32 : decode cX9_waits 32 = .ok (.iload_n 2, 1) := by decide +kernel
theorem dX9_waits_33 : decode cX9_waits 33 = .ok (.baload, 1) := by decide +kernel
theorem dX9_waits_34 : decode cX9_waits 34 = .ok (.ifCond .eq 11, 3) := by decide +kernel
theorem dX9_waits_37 : decode cX9_waits 37 = .ok (.aload_n 0, 1) := by decide +kernel
theorem dX9_waits_38 : decode cX9_waits 38 = .ok (.iload_n 2, 1) := by decide +kernel
theorem dX9_waits_39 : decode cX9_waits 39 = .ok (.invokevirtual 335, 3) := by decide +kernel
theorem dX9_waits_42 : decode cX9_waits 42 = .ok (.goto 5, 3) := by decide +kernel
theorem dX9_waits_45 : decode cX9_waits 45 = .ok (.bipush (-4), 2) := by decide +kernel
theorem dX9_waits_47 : decode cX9_waits 47 = .ok (.ireturn, 1) := by decide +kernel
theorem dX9_parkFor_0 : decode cX9_parkFor 0 = .ok (.iconst 0, 1) := by decide +kernel
theorem dX9_parkFor_1 : decode cX9_parkFor 1 = .ok (.istore_n 2, 1) := by decide +kernel
theorem dX9_parkFor_2 : decode cX9_parkFor 2 = .ok (.iload_n 2, 1) := by decide +kernel
theorem dX9_parkFor_3 : decode cX9_parkFor 3 = .ok (.aload_n 0, 1) := by decide +kernel
theorem dX9_parkFor_4 : decode cX9_parkFor 4 = .ok (.iload_n 1, 1) := by decide +kernel
theorem dX9_parkFor_5 : decode cX9_parkFor 5 = .ok (.iconst 5, 1) := by decide +kernel
theorem dX9_parkFor_6 : decode cX9_parkFor 6 = .ok (.invokevirtual 79, 3) := by decide +kernel
theorem dX9_parkFor_9 : decode cX9_parkFor 9 = .ok (.iadd, 1) := by decide +kernel
theorem dX9_parkFor_10 : decode cX9_parkFor 10 = .ok (.aload_n 0, 1) := by decide +kernel
theorem dX9_parkFor_11 : decode cX9_parkFor 11 = .ok (.getfield 7, 3) := by decide +kernel
theorem dX9_parkFor_14 : decode cX9_parkFor 14 = .ok (.iconst 1, 1) := by decide +kernel
theorem dX9_parkFor_15 : decode cX9_parkFor 15 = .ok (.iaload, 1) := by decide +kernel
theorem dX9_parkFor_16 : decode cX9_parkFor 16 = .ok (.if_icmp .gt 20, 3) := by decide +kernel
theorem dX9_parkFor_19 : decode cX9_parkFor 19 = .ok (.aload_n 0, 1) := by decide +kernel
theorem dX9_parkFor_20 : decode cX9_parkFor 20 = .ok (.iload_n 1, 1) := by decide +kernel
theorem dX9_parkFor_21 : decode cX9_parkFor 21 = .ok (.iload_n 2, 1) := by decide +kernel
theorem dX9_parkFor_22 : decode cX9_parkFor 22 = .ok (.invokevirtual 293, 3) := by decide +kernel
theorem dX9_parkFor_25 : decode cX9_parkFor 25 = .ok (.ifCond .eq 5, 3) := by decide +kernel
theorem dX9_parkFor_28 : decode cX9_parkFor 28 = .ok (.iload_n 2, 1) := by decide +kernel
theorem dX9_parkFor_29 : decode cX9_parkFor 29 = .ok (.ireturn, 1) := by decide +kernel
theorem dX9_parkFor_30 : decode cX9_parkFor 30 = .ok (.iinc 2 1, 3) := by decide +kernel
theorem dX9_parkFor_33 : decode cX9_parkFor 33 = .ok (.goto (-31), 3) := by decide +kernel
theorem dX9_parkFor_36 : decode cX9_parkFor 36 = .ok (.iconst (-1), 1) := by decide +kernel
theorem dX9_parkFor_37 : decode cX9_parkFor 37 = .ok (.ireturn, 1) := by decide +kernel
theorem dX9_parks_0 : decode cX9_parks 0 = .ok (.iconst 0, 1) := by decide +kernel
theorem dX9_parks_1 : decode cX9_parks 1 = .ok (.istore_n 1, 1) := by decide +kernel
theorem dX9_parks_2 : decode cX9_parks 2 = .ok (.iload_n 1, 1) := by decide +kernel
theorem dX9_parks_3 : decode cX9_parks 3 = .ok (.aload_n 0, 1) := by decide +kernel
theorem dX9_parks_4 : decode cX9_parks 4 = .ok (.getfield 7, 3) := by decide +kernel
theorem dX9_parks_7 : decode cX9_parks 7 = .ok (.bipush 7, 2) := by decide +kernel
theorem dX9_parks_9 : decode cX9_parks 9 = .ok (.iaload, 1) := by decide +kernel
theorem dX9_parks_10 : decode cX9_parks 10 = .ok (.if_icmp .ge 68, 3) := by decide +kernel
theorem dX9_parks_13 : decode cX9_parks 13 = .ok (.aload_n 0, 1) := by decide +kernel
theorem dX9_parks_14 : decode cX9_parks 14 = .ok (.iload_n 1, 1) := by decide +kernel
theorem dX9_parks_15 : decode cX9_parks 15 = .ok (.invokevirtual 332, 3) := by decide +kernel
theorem dX9_parks_18 : decode cX9_parks 18 = .ok (.ifCond .eq 54, 3) := by decide +kernel
theorem dX9_parks_21 : decode cX9_parks 21 = .ok (.aload_n 0, 1) := by decide +kernel
theorem dX9_parks_22 : decode cX9_parks 22 = .ok (.getfield 60, 3) := by decide +kernel
theorem dX9_parks_25 : decode cX9_parks 25 = .ok (.iload_n 1, 1) := by decide +kernel
theorem dX9_parks_26 : decode cX9_parks 26 = .ok (.baload, 1) := by decide +kernel
theorem dX9_parks_27 : decode cX9_parks 27 = .ok (.ifCond .ne 45, 3) := by decide +kernel
theorem dX9_parks_30 : decode cX9_parks 30 = .ok (.aload_n 0, 1) := by decide +kernel
theorem dX9_parks_31 : decode cX9_parks 31 = .ok (.iload_n 1, 1) := by decide +kernel
theorem dX9_parks_32 : decode cX9_parks 32 = .ok (.invokevirtual 350, 3) := by decide +kernel
theorem dX9_parks_35 : decode cX9_parks 35 = .ok (.iconst (-1), 1) := by decide +kernel
theorem dX9_parks_36 : decode cX9_parks 36 = .ok (.if_icmp .ne 6, 3) := by decide +kernel
theorem dX9_parks_39 : decode cX9_parks 39 = .ok (.goto 33, 3) := by decide +kernel
theorem dX9_parks_42 : decode cX9_parks 42 = .ok (.aload_n 0, 1) := by decide +kernel
theorem dX9_parks_43 : decode cX9_parks 43 = .ok (.iload_n 1, 1) := by decide +kernel
theorem dX9_parks_44 : decode cX9_parks 44 = .ok (.iconst 4, 1) := by decide +kernel
theorem dX9_parks_45 : decode cX9_parks 45 = .ok (.aload_n 0, 1) := by decide +kernel
theorem dX9_parks_46 : decode cX9_parks 46 = .ok (.iload_n 1, 1) := by decide +kernel
theorem dX9_parks_47 : decode cX9_parks 47 = .ok (.invokevirtual 350, 3) := by decide +kernel
theorem dX9_parks_50 : decode cX9_parks 50 = .ok (.invokevirtual 256, 3) := by decide +kernel
theorem dX9_parks_53 : decode cX9_parks 53 = .ok (.aload_n 0, 1) := by decide +kernel
theorem dX9_parks_54 : decode cX9_parks 54 = .ok (.getfield 60, 3) := by decide +kernel
theorem dX9_parks_57 : decode cX9_parks 57 = .ok (.iload_n 1, 1) := by decide +kernel
theorem dX9_parks_58 : decode cX9_parks 58 = .ok (.iconst 1, 1) := by decide +kernel
theorem dX9_parks_59 : decode cX9_parks 59 = .ok (.bastore, 1) := by decide +kernel
theorem dX9_parks_60 : decode cX9_parks 60 = .ok (.aload_n 0, 1) := by decide +kernel
theorem dX9_parks_61 : decode cX9_parks 61 = .ok (.aload_n 0, 1) := by decide +kernel
theorem dX9_parks_62 : decode cX9_parks 62 = .ok (.getfield 326, 3) := by decide +kernel
theorem dX9_parks_65 : decode cX9_parks 65 = .ok (.iconst 1, 1) := by decide +kernel
theorem dX9_parks_66 : decode cX9_parks 66 = .ok (.iadd, 1) := by decide +kernel
theorem dX9_parks_67 : decode cX9_parks 67 = .ok (.putfield 326, 3) := by decide +kernel
theorem dX9_parks_70 : decode cX9_parks 70 = .ok (.iconst 1, 1) := by decide +kernel
theorem dX9_parks_71 : decode cX9_parks 71 = .ok (.ireturn, 1) := by decide +kernel
theorem dX9_parks_72 : decode cX9_parks 72 = .ok (.iinc 1 1, 3) := by decide +kernel
theorem dX9_parks_75 : decode cX9_parks 75 = .ok (.goto (-73), 3) := by decide +kernel
theorem dX9_parks_78 : decode cX9_parks 78 = .ok (.iconst 0, 1) := by decide +kernel
theorem dX9_parks_79 : decode cX9_parks 79 = .ok (.ireturn, 1) := by decide +kernel
theorem dX9_unravel_0 : decode cX9_unravel 0 = .ok (.iload_n 1, 1) := by decide +kernel
theorem dX9_unravel_1 : decode cX9_unravel 1 = .ok (.invokestatic 265, 3) := by decide +kernel
theorem dX9_unravel_4 : decode cX9_unravel 4 = .ok (.ifCond .eq 12, 3) := by decide +kernel
theorem dX9_unravel_7 : decode cX9_unravel 7 = .ok (.iload_n 2, 1) := by decide +kernel
theorem dX9_unravel_8 : decode cX9_unravel 8 = .ok (.iconst 0, 1) := by decide +kernel
theorem dX9_unravel_9 : decode cX9_unravel 9 = .ok (.iconst 3, 1) := by decide +kernel
theorem dX9_unravel_10 : decode cX9_unravel 10 = .ok (.invokestatic 83, 3) := by decide +kernel
theorem dX9_unravel_13 : decode cX9_unravel 13 = .ok (.ifCond .ne 5, 3) := by decide +kernel
theorem dX9_unravel_16 : decode cX9_unravel 16 = .ok (.iconst (-1), 1) := by decide +kernel
theorem dX9_unravel_17 : decode cX9_unravel 17 = .ok (.ireturn, 1) := by decide +kernel
theorem dX9_unravel_18 : decode cX9_unravel 18 = .ok (.aload_n 0, 1) := by decide +kernel
theorem dX9_unravel_19 : decode cX9_unravel 19 = .ok (.iload_n 1, 1) := by decide +kernel
theorem dX9_unravel_20 : decode cX9_unravel 20 = .ok (.invokevirtual 341, 3) := by decide +kernel
theorem dX9_unravel_23 : decode cX9_unravel 23 = .ok (.ifCond .ne 6, 3) := by decide +kernel
theorem dX9_unravel_26 : decode cX9_unravel 26 = .ok (.bipush (-2), 2) := by decide +kernel
theorem dX9_unravel_28 : decode cX9_unravel 28 = .ok (.ireturn, 1) := by decide +kernel
theorem dX9_unravel_29 : decode cX9_unravel 29 = .ok (.aload_n 0, 1) := by decide +kernel
theorem dX9_unravel_30 : decode cX9_unravel 30 = .ok (.iconst 0, 1) := by decide +kernel
theorem dX9_unravel_31 : decode cX9_unravel 31 = .ok (.iconst 3, 1) := by decide +kernel
theorem dX9_unravel_32 : decode cX9_unravel 32 = .ok (.invokevirtual 311, 3) := by decide +kernel
theorem dX9_unravel_35 : decode cX9_unravel 35 = .ok (.aload_n 0, 1) := by decide +kernel
theorem dX9_unravel_36 : decode cX9_unravel 36 = .ok (.invokevirtual 344, 3) := by decide +kernel
theorem dX9_unravel_39 : decode cX9_unravel 39 = .ok (.aload_n 0, 1) := by decide +kernel
theorem dX9_unravel_40 : decode cX9_unravel 40 = .ok (.getfield 323, 3) := by decide +kernel
theorem dX9_unravel_43 : decode cX9_unravel 43 = .ok (.aload_n 0, 1) := by decide +kernel
theorem dX9_unravel_44 : decode cX9_unravel 44 = .ok (.getfield 314, 3) := by decide +kernel
theorem dX9_unravel_47 : decode cX9_unravel 47 = .ok (.if_icmp .ge 17, 3) := by decide +kernel
theorem dX9_unravel_50 : decode cX9_unravel 50 = .ok (.aload_n 0, 1) := by decide +kernel
theorem dX9_unravel_51 : decode cX9_unravel 51 = .ok (.invokevirtual 353, 3) := by decide +kernel
theorem dX9_unravel_54 : decode cX9_unravel 54 = .ok (.ifCond .eq 10, 3) := by decide +kernel
theorem dX9_unravel_57 : decode cX9_unravel 57 = .ok (.aload_n 0, 1) := by decide +kernel
theorem dX9_unravel_58 : decode cX9_unravel 58 = .ok (.invokevirtual 344, 3) := by decide +kernel
theorem dX9_unravel_61 : decode cX9_unravel 61 = .ok (.goto (-22), 3) := by decide +kernel
theorem dX9_unravel_64 : decode cX9_unravel 64 = .ok (.aload_n 0, 1) := by decide +kernel
theorem dX9_unravel_65 : decode cX9_unravel 65 = .ok (.invokevirtual 317, 3) := by decide +kernel
theorem dX9_unravel_68 : decode cX9_unravel 68 = .ok (.istore_n 3, 1) := by decide +kernel
theorem dX9_unravel_69 : decode cX9_unravel 69 = .ok (.aload_n 0, 1) := by decide +kernel
theorem dX9_unravel_70 : decode cX9_unravel 70 = .ok (.iconst 3, 1) := by decide +kernel
theorem dX9_unravel_71 : decode cX9_unravel 71 = .ok (.iconst 0, 1) := by decide +kernel
theorem dX9_unravel_72 : decode cX9_unravel 72 = .ok (.invokevirtual 311, 3) := by decide +kernel
theorem dX9_unravel_75 : decode cX9_unravel 75 = .ok (.iload_n 2, 1) := by decide +kernel
theorem dX9_unravel_76 : decode cX9_unravel 76 = .ok (.ifCond .ne 10, 3) := by decide +kernel
theorem dX9_unravel_79 : decode cX9_unravel 79 = .ok (.aload_n 0, 1) := by decide +kernel
theorem dX9_unravel_80 : decode cX9_unravel 80 = .ok (.getfield 326, 3) := by decide +kernel
theorem dX9_unravel_83 : decode cX9_unravel 83 = .ok (.goto 33, 3) := by decide +kernel
theorem dX9_unravel_86 : decode cX9_unravel 86 = .ok (.iload_n 2, 1) := by decide +kernel
theorem dX9_unravel_87 : decode cX9_unravel 87 = .ok (.iconst 1, 1) := by decide +kernel
theorem dX9_unravel_88 : decode cX9_unravel 88 = .ok (.if_icmp .ne 10, 3) := by decide +kernel
theorem dX9_unravel_91 : decode cX9_unravel 91 = .ok (.aload_n 0, 1) := by decide +kernel
theorem dX9_unravel_92 : decode cX9_unravel 92 = .ok (.getfield 323, 3) := by decide +kernel
theorem dX9_unravel_95 : decode cX9_unravel 95 = .ok (.goto 21, 3) := by decide +kernel
theorem dX9_unravel_98 : decode cX9_unravel 98 = .ok (.iload_n 2, 1) := by decide +kernel
theorem dX9_unravel_99 : decode cX9_unravel 99 = .ok (.iconst 2, 1) := by decide +kernel
theorem dX9_unravel_100 : decode cX9_unravel 100 = .ok (.if_icmp .ne 15, 3) := by decide +kernel
theorem dX9_unravel_103 : decode cX9_unravel 103 = .ok (.aload_n 0, 1) := by decide +kernel
theorem dX9_unravel_104 : decode cX9_unravel 104 = .ok (.getfield 314, 3) := by decide +kernel
theorem dX9_unravel_107 : decode cX9_unravel 107 = .ok (.aload_n 0, 1) := by decide +kernel
theorem dX9_unravel_108 : decode cX9_unravel 108 = .ok (.getfield 323, 3) := by decide +kernel
theorem dX9_unravel_111 : decode cX9_unravel 111 = .ok (.isub, 1) := by decide +kernel
theorem dX9_unravel_112 : decode cX9_unravel 112 = .ok (.goto 4, 3) := by decide +kernel
theorem dX9_unravel_115 : decode cX9_unravel 115 = .ok (.iload_n 3, 1) := by decide +kernel
theorem dX9_unravel_116 : decode cX9_unravel 116 = .ok (.ireturn, 1) := by decide +kernel
theorem dX9_lasts_0 : decode cX9_lasts 0 = .ok (.aload_n 0, 1) := by decide +kernel
theorem dX9_lasts_1 : decode cX9_lasts 1 = .ok (.iload_n 1, 1) := by decide +kernel
theorem dX9_lasts_2 : decode cX9_lasts 2 = .ok (.invokevirtual 281, 3) := by decide +kernel
theorem dX9_lasts_5 : decode cX9_lasts 5 = .ok (.ifCond .eq 33, 3) := by decide +kernel
theorem dX9_lasts_8 : decode cX9_lasts 8 = .ok (.aload_n 0, 1) := by decide +kernel
theorem dX9_lasts_9 : decode cX9_lasts 9 = .ok (.iload_n 1, 1) := by decide +kernel
theorem dX9_lasts_10 : decode cX9_lasts 10 = .ok (.iconst 3, 1) := by decide +kernel
theorem dX9_lasts_11 : decode cX9_lasts 11 = .ok (.invokevirtual 79, 3) := by decide +kernel
theorem dX9_lasts_14 : decode cX9_lasts 14 = .ok (.ifCond .eq 13, 3) := by decide +kernel
theorem dX9_lasts_17 : decode cX9_lasts 17 = .ok (.aload_n 0, 1) := by decide +kernel
theorem dX9_lasts_18 : decode cX9_lasts 18 = .ok (.iload_n 1, 1) := by decide +kernel
theorem dX9_lasts_19 : decode cX9_lasts 19 = .ok (.iconst 3, 1) := by decide +kernel
theorem dX9_lasts_20 : decode cX9_lasts 20 = .ok (.invokevirtual 79, 3) := by decide +kernel
theorem dX9_lasts_23 : decode cX9_lasts 23 = .ok (.iconst 2, 1) := by decide +kernel
theorem dX9_lasts_24 : decode cX9_lasts 24 = .ok (.if_icmp .ne 14, 3) := by decide +kernel
theorem dX9_lasts_27 : decode cX9_lasts 27 = .ok (.iload_n 2, 1) := by decide +kernel
theorem dX9_lasts_28 : decode cX9_lasts 28 = .ok (.iconst 1, 1) := by decide +kernel
theorem dX9_lasts_29 : decode cX9_lasts 29 = .ok (.sipush 9999, 3) := by decide +kernel
theorem dX9_lasts_32 : decode cX9_lasts 32 = .ok (.invokestatic 83, 3) := by decide +kernel
theorem dX9_lasts_35 : decode cX9_lasts 35 = .ok (.ifCond .ne 5, 3) := by decide +kernel
theorem dX9_lasts_38 : decode cX9_lasts 38 = .ok (.iconst (-1), 1) := by decide +kernel
theorem dX9_lasts_39 : decode cX9_lasts 39 = .ok (.ireturn, 1) := by decide +kernel
theorem dX9_lasts_40 : decode cX9_lasts 40 = .ok (.aload_n 0, 1) := by decide +kernel
theorem dX9_lasts_41 : decode cX9_lasts 41 = .ok (.iload_n 1, 1) := by decide +kernel
theorem dX9_lasts_42 : decode cX9_lasts 42 = .ok (.bipush 7, 2) := by decide +kernel
theorem dX9_lasts_44 : decode cX9_lasts 44 = .ok (.aload_n 0, 1) := by decide +kernel
theorem dX9_lasts_45 : decode cX9_lasts 45 = .ok (.getfield 7, 3) := by decide +kernel
theorem dX9_lasts_48 : decode cX9_lasts 48 = .ok (.iconst 5, 1) := by decide +kernel
theorem dX9_lasts_49 : decode cX9_lasts 49 = .ok (.iaload, 1) := by decide +kernel
theorem dX9_lasts_50 : decode cX9_lasts 50 = .ok (.iload_n 2, 1) := by decide +kernel
theorem dX9_lasts_51 : decode cX9_lasts 51 = .ok (.iadd, 1) := by decide +kernel
theorem dX9_lasts_52 : decode cX9_lasts 52 = .ok (.invokevirtual 256, 3) := by decide +kernel
theorem dX9_lasts_55 : decode cX9_lasts 55 = .ok (.aload_n 0, 1) := by decide +kernel
theorem dX9_lasts_56 : decode cX9_lasts 56 = .ok (.getfield 7, 3) := by decide +kernel
theorem dX9_lasts_59 : decode cX9_lasts 59 = .ok (.iconst 5, 1) := by decide +kernel
theorem dX9_lasts_60 : decode cX9_lasts 60 = .ok (.iaload, 1) := by decide +kernel
theorem dX9_lasts_61 : decode cX9_lasts 61 = .ok (.iload_n 2, 1) := by decide +kernel
theorem dX9_lasts_62 : decode cX9_lasts 62 = .ok (.iadd, 1) := by decide +kernel
theorem dX9_lasts_63 : decode cX9_lasts 63 = .ok (.ireturn, 1) := by decide +kernel
theorem dX9_ends_0 : decode cX9_ends 0 = .ok (.iconst 0, 1) := by decide +kernel
theorem dX9_ends_1 : decode cX9_ends 1 = .ok (.istore_n 2, 1) := by decide +kernel
theorem dX9_ends_2 : decode cX9_ends 2 = .ok (.iconst 0, 1) := by decide +kernel
theorem dX9_ends_3 : decode cX9_ends 3 = .ok (.istore_n 3, 1) := by decide +kernel
theorem dX9_ends_4 : decode cX9_ends 4 = .ok (.iload_n 3, 1) := by decide +kernel
theorem dX9_ends_5 : decode cX9_ends 5 = .ok (.aload_n 0, 1) := by decide +kernel
theorem dX9_ends_6 : decode cX9_ends 6 = .ok (.getfield 7, 3) := by decide +kernel
theorem dX9_ends_9 : decode cX9_ends 9 = .ok (.bipush 7, 2) := by decide +kernel
theorem dX9_ends_11 : decode cX9_ends 11 = .ok (.iaload, 1) := by decide +kernel
theorem dX9_ends_12 : decode cX9_ends 12 = .ok (.if_icmp .ge 53, 3) := by decide +kernel
theorem dX9_ends_15 : decode cX9_ends 15 = .ok (.aload_n 0, 1) := by decide +kernel
theorem dX9_ends_16 : decode cX9_ends 16 = .ok (.iload_n 3, 1) := by decide +kernel
theorem dX9_ends_17 : decode cX9_ends 17 = .ok (.bipush 7, 2) := by decide +kernel
theorem dX9_ends_19 : decode cX9_ends 19 = .ok (.invokevirtual 79, 3) := by decide +kernel
theorem dX9_ends_22 : decode cX9_ends 22 = .ok (.iload_n 1, 1) := by decide +kernel
theorem dX9_ends_23 : decode cX9_ends 23 = .ok (.if_icmp .ne 36, 3) := by decide +kernel
theorem dX9_ends_26 : decode cX9_ends 26 = .ok (.aload_n 0, 1) := by decide +kernel
theorem dX9_ends_27 : decode cX9_ends 27 = .ok (.iload_n 3, 1) := by decide +kernel
theorem dX9_ends_28 : decode cX9_ends 28 = .ok (.iconst 3, 1) := by decide +kernel
theorem dX9_ends_29 : decode cX9_ends 29 = .ok (.invokevirtual 79, 3) := by decide +kernel
theorem dX9_ends_32 : decode cX9_ends 32 = .ok (.ifCond .eq 16, 3) := by decide +kernel
theorem dX9_ends_35 : decode cX9_ends 35 = .ok (.aload_n 0, 1) := by decide +kernel
theorem dX9_ends_36 : decode cX9_ends 36 = .ok (.iload_n 3, 1) := by decide +kernel
theorem dX9_ends_37 : decode cX9_ends 37 = .ok (.iconst 3, 1) := by decide +kernel
theorem dX9_ends_38 : decode cX9_ends 38 = .ok (.invokevirtual 79, 3) := by decide +kernel
theorem dX9_ends_41 : decode cX9_ends 41 = .ok (.iconst 2, 1) := by decide +kernel
theorem dX9_ends_42 : decode cX9_ends 42 = .ok (.if_icmp .eq 6, 3) := by decide +kernel
theorem dX9_ends_45 : decode cX9_ends 45 = .ok (.goto 14, 3) := by decide +kernel
theorem dX9_ends_48 : decode cX9_ends 48 = .ok (.aload_n 0, 1) := by decide +kernel
theorem dX9_ends_49 : decode cX9_ends 49 = .ok (.iload_n 3, 1) := by decide +kernel
theorem dX9_ends_50 : decode cX9_ends 50 = .ok (.iconst 3, 1) := by decide +kernel
theorem dX9_ends_51 : decode cX9_ends 51 = .ok (.iconst 3, 1) := by decide +kernel
theorem dX9_ends_52 : decode cX9_ends 52 = .ok (.invokevirtual 256, 3) := by decide +kernel
theorem dX9_ends_55 : decode cX9_ends 55 = .ok (.iload_n 2, 1) := by decide +kernel
theorem dX9_ends_56 : decode cX9_ends 56 = .ok (.iconst 1, 1) := by decide +kernel
theorem dX9_ends_57 : decode cX9_ends 57 = .ok (.iadd, 1) := by decide +kernel
theorem dX9_ends_58 : decode cX9_ends 58 = .ok (.istore_n 2, 1) := by decide +kernel
theorem dX9_ends_59 : decode cX9_ends 59 = .ok (.iinc 3 1, 3) := by decide +kernel
theorem dX9_ends_62 : decode cX9_ends 62 = .ok (.goto (-58), 3) := by decide +kernel
theorem dX9_ends_65 : decode cX9_ends 65 = .ok (.iload_n 2, 1) := by decide +kernel
theorem dX9_ends_66 : decode cX9_ends 66 = .ok (.ireturn, 1) := by decide +kernel
theorem dX9_ticks_0 : decode cX9_ticks 0 = .ok (.iload_n 1, 1) := by decide +kernel
theorem dX9_ticks_1 : decode cX9_ticks 1 = .ok (.iconst 1, 1) := by decide +kernel
theorem dX9_ticks_2 : decode cX9_ticks 2 = .ok (.sipush 1000, 3) := by decide +kernel
theorem dX9_ticks_5 : decode cX9_ticks 5 = .ok (.invokestatic 83, 3) := by decide +kernel
theorem dX9_ticks_8 : decode cX9_ticks 8 = .ok (.ifCond .ne 5, 3) := by decide +kernel
theorem dX9_ticks_11 : decode cX9_ticks 11 = .ok (.iconst (-1), 1) := by decide +kernel
theorem dX9_ticks_12 : decode cX9_ticks 12 = .ok (.ireturn, 1) := by decide +kernel
theorem dX9_ticks_13 : decode cX9_ticks 13 = .ok (.aload_n 0, 1) := by decide +kernel
theorem dX9_ticks_14 : decode cX9_ticks 14 = .ok (.getfield 7, 3) := by decide +kernel
theorem dX9_ticks_17 : decode cX9_ticks 17 = .ok (.iconst 5, 1) := by decide +kernel
theorem dX9_ticks_18 : decode cX9_ticks 18 = .ok (.iaload, 1) := by decide +kernel
theorem dX9_ticks_19 : decode cX9_ticks 19 = .ok (.iload_n 1, 1) := by decide +kernel
theorem dX9_ticks_20 : decode cX9_ticks 20 = .ok (.iadd, 1) := by decide +kernel
theorem dX9_ticks_21 : decode cX9_ticks 21 = .ok (.ldc_w 356, 3) := by decide +kernel
theorem dX9_ticks_24 : decode cX9_ticks 24 = .ok (.if_icmp .le 6, 3) := by decide +kernel
theorem dX9_ticks_27 : decode cX9_ticks 27 = .ok (.bipush (-3), 2) := by decide +kernel
theorem dX9_ticks_29 : decode cX9_ticks 29 = .ok (.ireturn, 1) := by decide +kernel
theorem dX9_ticks_30 : decode cX9_ticks 30 = .ok (.iconst 0, 1) := by decide +kernel
theorem dX9_ticks_31 : decode cX9_ticks 31 = .ok (.istore_n 2, 1) := by decide +kernel
theorem dX9_ticks_32 : decode cX9_ticks 32 = .ok (.iconst 0, 1) := by decide +kernel
theorem dX9_ticks_33 : decode cX9_ticks 33 = .ok (.istore_n 3, 1) := by decide +kernel
theorem dX9_ticks_34 : decode cX9_ticks 34 = .ok (.iload_n 3, 1) := by decide +kernel
theorem dX9_ticks_35 : decode cX9_ticks 35 = .ok (.iload_n 1, 1) := by decide +kernel
theorem dX9_ticks_36 : decode cX9_ticks 36 = .ok (.if_icmp .ge 36, 3) := by decide +kernel
theorem dX9_ticks_39 : decode cX9_ticks 39 = .ok (.aload_n 0, 1) := by decide +kernel
theorem dX9_ticks_40 : decode cX9_ticks 40 = .ok (.getfield 7, 3) := by decide +kernel
theorem dX9_ticks_43 : decode cX9_ticks 43 = .ok (.iconst 5, 1) := by decide +kernel
theorem dX9_ticks_44 : decode cX9_ticks 44 = .ok (.aload_n 0, 1) := by decide +kernel
theorem dX9_ticks_45 : decode cX9_ticks 45 = .ok (.getfield 7, 3) := by decide +kernel
theorem dX9_ticks_48 : decode cX9_ticks 48 = .ok (.iconst 5, 1) := by decide +kernel
theorem dX9_ticks_49 : decode cX9_ticks 49 = .ok (.iaload, 1) := by decide +kernel
theorem dX9_ticks_50 : decode cX9_ticks 50 = .ok (.iconst 1, 1) := by decide +kernel
theorem dX9_ticks_51 : decode cX9_ticks 51 = .ok (.iadd, 1) := by decide +kernel
theorem dX9_ticks_52 : decode cX9_ticks 52 = .ok (.iastore, 1) := by decide +kernel
theorem dX9_ticks_53 : decode cX9_ticks 53 = .ok (.iload_n 2, 1) := by decide +kernel
theorem dX9_ticks_54 : decode cX9_ticks 54 = .ok (.aload_n 0, 1) := by decide +kernel
theorem dX9_ticks_55 : decode cX9_ticks 55 = .ok (.aload_n 0, 1) := by decide +kernel
theorem dX9_ticks_56 : decode cX9_ticks 56 = .ok (.getfield 7, 3) := by decide +kernel
theorem dX9_ticks_59 : decode cX9_ticks 59 = .ok (.iconst 5, 1) := by decide +kernel
theorem dX9_ticks_60 : decode cX9_ticks 60 = .ok (.iaload, 1) := by decide +kernel
theorem dX9_ticks_61 : decode cX9_ticks 61 = .ok (.invokevirtual 357, 3) := by decide +kernel
theorem dX9_ticks_64 : decode cX9_ticks 64 = .ok (.iadd, 1) := by decide +kernel
theorem dX9_ticks_65 : decode cX9_ticks 65 = .ok (.istore_n 2, 1) := by decide +kernel
theorem dX9_ticks_66 : decode cX9_ticks 66 = .ok (.iinc 3 1, 3) := by decide +kernel
theorem dX9_ticks_69 : decode cX9_ticks 69 = .ok (.goto (-35), 3) := by decide +kernel
theorem dX9_ticks_72 : decode cX9_ticks 72 = .ok (.iload_n 2, 1) := by decide +kernel
theorem dX9_ticks_73 : decode cX9_ticks 73 = .ok (.ireturn, 1) := by decide +kernel
theorem dX9_drawn_0 : decode cX9_drawn 0 = .ok (.aload_n 0, 1) := by decide +kernel
theorem dX9_drawn_1 : decode cX9_drawn 1 = .ok (.getfield 7, 3) := by decide +kernel
theorem dX9_drawn_4 : decode cX9_drawn 4 = .ok (.bipush 6, 2) := by decide +kernel
theorem dX9_drawn_6 : decode cX9_drawn 6 = .ok (.sipush 25173, 3) := by decide +kernel
theorem dX9_drawn_9 : decode cX9_drawn 9 = .ok (.aload_n 0, 1) := by decide +kernel
theorem dX9_drawn_10 : decode cX9_drawn 10 = .ok (.getfield 7, 3) := by decide +kernel
theorem dX9_drawn_13 : decode cX9_drawn 13 = .ok (.bipush 6, 2) := by decide +kernel
theorem dX9_drawn_15 : decode cX9_drawn 15 = .ok (.iaload, 1) := by decide +kernel
theorem dX9_drawn_16 : decode cX9_drawn 16 = .ok (.imul, 1) := by decide +kernel
theorem dX9_drawn_17 : decode cX9_drawn 17 = .ok (.sipush 13849, 3) := by decide +kernel
theorem dX9_drawn_20 : decode cX9_drawn 20 = .ok (.iadd, 1) := by decide +kernel
theorem dX9_drawn_21 : decode cX9_drawn 21 = .ok (.ldc_w 360, 3) := by decide +kernel
theorem dX9_drawn_24 : decode cX9_drawn 24 = .ok (.irem, 1) := by decide +kernel
theorem dX9_drawn_25 : decode cX9_drawn 25 = .ok (.iastore, 1) := by decide +kernel
theorem dX9_drawn_26 : decode cX9_drawn 26 = .ok (.aload_n 0, 1) := by decide +kernel
theorem dX9_drawn_27 : decode cX9_drawn 27 = .ok (.getfield 7, 3) := by decide +kernel
theorem dX9_drawn_30 : decode cX9_drawn 30 = .ok (.bipush 6, 2) := by decide +kernel
theorem dX9_drawn_32 : decode cX9_drawn 32 = .ok (.iaload, 1) := by decide +kernel
theorem dX9_drawn_33 : decode cX9_drawn 33 = .ok (.iload_n 1, 1) := by decide +kernel
theorem dX9_drawn_34 : decode cX9_drawn 34 = .ok (.irem, 1) := by decide +kernel
theorem dX9_drawn_35 : decode cX9_drawn 35 = .ok (.ireturn, 1) := by decide +kernel
theorem dX9_litMany_0 : decode cX9_litMany 0 = .ok (.iconst 0, 1) := by decide +kernel
theorem dX9_litMany_1 : decode cX9_litMany 1 = .ok (.istore_n 1, 1) := by decide +kernel
theorem dX9_litMany_2 : decode cX9_litMany 2 = .ok (.iconst 0, 1) := by decide +kernel
theorem dX9_litMany_3 : decode cX9_litMany 3 = .ok (.istore_n 2, 1) := by decide +kernel
theorem dX9_litMany_4 : decode cX9_litMany 4 = .ok (.iload_n 2, 1) := by decide +kernel
theorem dX9_litMany_5 : decode cX9_litMany 5 = .ok (.aload_n 0, 1) := by decide +kernel
theorem dX9_litMany_6 : decode cX9_litMany 6 = .ok (.getfield 7, 3) := by decide +kernel
theorem dX9_litMany_9 : decode cX9_litMany 9 = .ok (.bipush 7, 2) := by decide +kernel
theorem dX9_litMany_11 : decode cX9_litMany 11 = .ok (.iaload, 1) := by decide +kernel
theorem dX9_litMany_12 : decode cX9_litMany 12 = .ok (.if_icmp .ge 21, 3) := by decide +kernel
theorem dX9_litMany_15 : decode cX9_litMany 15 = .ok (.aload_n 0, 1) := by decide +kernel
theorem dX9_litMany_16 : decode cX9_litMany 16 = .ok (.iload_n 2, 1) := by decide +kernel
theorem dX9_litMany_17 : decode cX9_litMany 17 = .ok (.invokevirtual 219, 3) := by decide +kernel
theorem dX9_litMany_20 : decode cX9_litMany 20 = .ok (.ifCond .eq 7, 3) := by decide +kernel
theorem dX9_litMany_23 : decode cX9_litMany 23 = .ok (.iload_n 1, 1) := by decide +kernel
theorem dX9_litMany_24 : decode cX9_litMany 24 = .ok (.iconst 1, 1) := by decide +kernel
theorem dX9_litMany_25 : decode cX9_litMany 25 = .ok (.iadd, 1) := by decide +kernel
theorem dX9_litMany_26 : decode cX9_litMany 26 = .ok (.istore_n 1, 1) := by decide +kernel
theorem dX9_litMany_27 : decode cX9_litMany 27 = .ok (.iinc 2 1, 3) := by decide +kernel
theorem dX9_litMany_30 : decode cX9_litMany 30 = .ok (.goto (-26), 3) := by decide +kernel
theorem dX9_litMany_33 : decode cX9_litMany 33 = .ok (.iload_n 1, 1) := by decide +kernel
theorem dX9_litMany_34 : decode cX9_litMany 34 = .ok (.ireturn, 1) := by decide +kernel
theorem dX9_tries_0 : decode cX9_tries 0 = .ok (.aload_n 0, 1) := by decide +kernel
theorem dX9_tries_1 : decode cX9_tries 1 = .ok (.iconst 0, 1) := by decide +kernel
theorem dX9_tries_2 : decode cX9_tries 2 = .ok (.iconst 2, 1) := by decide +kernel
theorem dX9_tries_3 : decode cX9_tries 3 = .ok (.invokevirtual 311, 3) := by decide +kernel
theorem dX9_tries_6 : decode cX9_tries 6 = .ok (.aload_n 0, 1) := by decide +kernel
theorem dX9_tries_7 : decode cX9_tries 7 = .ok (.getfield 7, 3) := by decide +kernel
theorem dX9_tries_10 : decode cX9_tries 10 = .ok (.bipush 7, 2) := by decide +kernel
theorem dX9_tries_12 : decode cX9_tries 12 = .ok (.iconst 0, 1) := by decide +kernel
theorem dX9_tries_13 : decode cX9_tries 13 = .ok (.iastore, 1) := by decide +kernel
theorem dX9_tries_14 : decode cX9_tries 14 = .ok (.aload_n 0, 1) := by decide +kernel
theorem dX9_tries_15 : decode cX9_tries 15 = .ok (.iconst 0, 1) := by decide +kernel
theorem dX9_tries_16 : decode cX9_tries 16 = .ok (.putfield 361, 3) := by decide +kernel
theorem dX9_tries_19 : decode cX9_tries 19 = .ok (.aload_n 0, 1) := by decide +kernel
theorem dX9_tries_20 : decode cX9_tries 20 = .ok (.iconst 0, 1) := by decide +kernel
theorem dX9_tries_21 : decode cX9_tries 21 = .ok (.putfield 364, 3) := by decide +kernel
theorem dX9_tries_24 : decode cX9_tries 24 = .ok (.aload_n 0, 1) := by decide +kernel
theorem dX9_tries_25 : decode cX9_tries 25 = .ok (.iconst (-1), 1) := by decide +kernel
theorem dX9_tries_26 : decode cX9_tries 26 = .ok (.putfield 367, 3) := by decide +kernel
theorem dX9_tries_29 : decode cX9_tries 29 = .ok (.iconst 0, 1) := by decide +kernel
theorem dX9_tries_30 : decode cX9_tries 30 = .ok (.istore 4, 2) := by decide +kernel
theorem dX9_tries_32 : decode cX9_tries 32 = .ok (.iload 4, 2) := by decide +kernel
theorem dX9_tries_34 : decode cX9_tries 34 = .ok (.iload_n 1, 1) := by decide +kernel
theorem dX9_tries_35 : decode cX9_tries 35 = .ok (.if_icmp .ge 165, 3) := by decide +kernel
theorem dX9_tries_38 : decode cX9_tries 38 = .ok (.aload_n 0, 1) := by decide +kernel
theorem dX9_tries_39 : decode cX9_tries 39 = .ok (.iload 4, 2) := by decide +kernel
theorem dX9_tries_41 : decode cX9_tries 41 = .ok (.invokevirtual 357, 3) := by decide +kernel
theorem dX9_tries_44 : decode cX9_tries 44 = .ok (.istore 5, 2) := by decide +kernel
theorem dX9_tries_46 : decode cX9_tries 46 = .ok (.aload_n 0, 1) := by decide +kernel
theorem dX9_tries_47 : decode cX9_tries 47 = .ok (.aload_n 0, 1) := by decide +kernel
theorem dX9_tries_48 : decode cX9_tries 48 = .ok (.getfield 7, 3) := by decide +kernel
theorem dX9_tries_51 : decode cX9_tries 51 = .ok (.iconst 0, 1) := by decide +kernel
theorem dX9_tries_52 : decode cX9_tries 52 = .ok (.iaload, 1) := by decide +kernel
theorem dX9_tries_53 : decode cX9_tries 53 = .ok (.invokevirtual 370, 3) := by decide +kernel
theorem dX9_tries_56 : decode cX9_tries 56 = .ok (.istore 6, 2) := by decide +kernel
theorem dX9_tries_58 : decode cX9_tries 58 = .ok (.iload 6, 2) := by decide +kernel
theorem dX9_tries_60 : decode cX9_tries 60 = .ok (.iconst 1, 1) := by decide +kernel
theorem dX9_tries_61 : decode cX9_tries 61 = .ok (.iadd, 1) := by decide +kernel
theorem dX9_tries_62 : decode cX9_tries 62 = .ok (.aload_n 0, 1) := by decide +kernel
theorem dX9_tries_63 : decode cX9_tries 63 = .ok (.aload_n 0, 1) := by decide +kernel
theorem dX9_tries_64 : decode cX9_tries 64 = .ok (.getfield 7, 3) := by decide +kernel
theorem dX9_tries_67 : decode cX9_tries 67 = .ok (.iconst 0, 1) := by decide +kernel
theorem dX9_tries_68 : decode cX9_tries 68 = .ok (.iaload, 1) := by decide +kernel
theorem dX9_tries_69 : decode cX9_tries 69 = .ok (.iconst 1, 1) := by decide +kernel
theorem dX9_tries_70 : decode cX9_tries 70 = .ok (.isub, 1) := by decide +kernel
theorem dX9_tries_71 : decode cX9_tries 71 = .ok (.invokevirtual 370, 3) := by decide +kernel
theorem dX9_tries_74 : decode cX9_tries 74 = .ok (.iadd, 1) := by decide +kernel
theorem dX9_tries_75 : decode cX9_tries 75 = .ok (.aload_n 0, 1) := by decide +kernel
theorem dX9_tries_76 : decode cX9_tries 76 = .ok (.getfield 7, 3) := by decide +kernel
theorem dX9_tries_79 : decode cX9_tries 79 = .ok (.iconst 0, 1) := by decide +kernel
theorem dX9_tries_80 : decode cX9_tries 80 = .ok (.iaload, 1) := by decide +kernel
theorem dX9_tries_81 : decode cX9_tries 81 = .ok (.irem, 1) := by decide +kernel
theorem dX9_tries_82 : decode cX9_tries 82 = .ok (.istore 7, 2) := by decide +kernel
theorem dX9_tries_84 : decode cX9_tries 84 = .ok (.iconst 1, 1) := by decide +kernel
theorem dX9_tries_85 : decode cX9_tries 85 = .ok (.aload_n 0, 1) := by decide +kernel
theorem dX9_tries_86 : decode cX9_tries 86 = .ok (.iload_n 2, 1) := by decide +kernel
theorem dX9_tries_87 : decode cX9_tries 87 = .ok (.invokevirtual 370, 3) := by decide +kernel
theorem dX9_tries_90 : decode cX9_tries 90 = .ok (.iadd, 1) := by decide +kernel
theorem dX9_tries_91 : decode cX9_tries 91 = .ok (.istore 8, 2) := by decide +kernel
theorem dX9_tries_93 : decode cX9_tries 93 = .ok (.iload 4, 2) := by decide +kernel
theorem dX9_tries_95 : decode cX9_tries 95 = .ok (.iconst 1, 1) := by decide +kernel
theorem dX9_tries_96 : decode cX9_tries 96 = .ok (.iadd, 1) := by decide +kernel
theorem dX9_tries_97 : decode cX9_tries 97 = .ok (.aload_n 0, 1) := by decide +kernel
theorem dX9_tries_98 : decode cX9_tries 98 = .ok (.bipush 20, 2) := by decide +kernel
theorem dX9_tries_100 : decode cX9_tries 100 = .ok (.invokevirtual 370, 3) := by decide +kernel
theorem dX9_tries_103 : decode cX9_tries 103 = .ok (.iadd, 1) := by decide +kernel
theorem dX9_tries_104 : decode cX9_tries 104 = .ok (.istore 9, 2) := by decide +kernel
theorem dX9_tries_106 : decode cX9_tries 106 = .ok (.aload_n 0, 1) := by decide +kernel
theorem dX9_tries_107 : decode cX9_tries 107 = .ok (.iload 6, 2) := by decide +kernel
theorem dX9_tries_109 : decode cX9_tries 109 = .ok (.iload 7, 2) := by decide +kernel
theorem dX9_tries_111 : decode cX9_tries 111 = .ok (.iload 8, 2) := by decide +kernel
theorem dX9_tries_113 : decode cX9_tries 113 = .ok (.iload_n 3, 1) := by decide +kernel
theorem dX9_tries_114 : decode cX9_tries 114 = .ok (.invokevirtual 271, 3) := by decide +kernel
theorem dX9_tries_117 : decode cX9_tries 117 = .ok (.istore 10, 2) := by decide +kernel
theorem dX9_tries_119 : decode cX9_tries 119 = .ok (.aload_n 0, 1) := by decide +kernel
theorem dX9_tries_120 : decode cX9_tries 120 = .ok (.aload_n 0, 1) := by decide +kernel
theorem dX9_tries_121 : decode cX9_tries 121 = .ok (.iload 6, 2) := by decide +kernel
theorem dX9_tries_123 : decode cX9_tries 123 = .ok (.iload 7, 2) := by decide +kernel
theorem dX9_tries_125 : decode cX9_tries 125 = .ok (.iload 8, 2) := by decide +kernel
theorem dX9_tries_127 : decode cX9_tries 127 = .ok (.iload 10, 2) := by decide +kernel
theorem dX9_tries_129 : decode cX9_tries 129 = .ok (.invokevirtual 274, 3) := by decide +kernel
theorem dX9_tries_132 : decode cX9_tries 132 = .ok (.bipush 7, 2) := by decide +kernel
theorem dX9_tries_134 : decode cX9_tries 134 = .ok (.iload 10, 2) := by decide +kernel
theorem dX9_tries_136 : decode cX9_tries 136 = .ok (.ifCond .eq 8, 3) := by decide +kernel
theorem dX9_tries_139 : decode cX9_tries 139 = .ok (.iload 9, 2) := by decide +kernel
theorem dX9_tries_141 : decode cX9_tries 141 = .ok (.goto 4, 3) := by decide +kernel
theorem dX9_tries_144 : decode cX9_tries 144 = .ok (.iconst (-1), 1) := by decide +kernel
theorem dX9_tries_145 : decode cX9_tries 145 = .ok (.invokevirtual 256, 3) := by decide +kernel
theorem dX9_tries_148 : decode cX9_tries 148 = .ok (.iload 10, 2) := by decide +kernel
theorem dX9_tries_150 : decode cX9_tries 150 = .ok (.ifCond .ne 13, 3) := by decide +kernel
theorem dX9_tries_153 : decode cX9_tries 153 = .ok (.aload_n 0, 1) := by decide +kernel
theorem dX9_tries_154 : decode cX9_tries 154 = .ok (.aload_n 0, 1) := by decide +kernel
theorem dX9_tries_155 : decode cX9_tries 155 = .ok (.getfield 361, 3) := by decide +kernel
theorem dX9_tries_158 : decode cX9_tries 158 = .ok (.iconst 1, 1) := by decide +kernel
theorem dX9_tries_159 : decode cX9_tries 159 = .ok (.iadd, 1) := by decide +kernel
theorem dX9_tries_160 : decode cX9_tries 160 = .ok (.putfield 361, 3) := by decide +kernel
theorem dX9_tries_163 : decode cX9_tries 163 = .ok (.iload 10, 2) := by decide +kernel
theorem dX9_tries_165 : decode cX9_tries 165 = .ok (.ifCond .ne 14, 3) := by decide +kernel
theorem dX9_tries_168 : decode cX9_tries 168 = .ok (.aload_n 0, 1) := by decide +kernel
theorem dX9_tries_169 : decode cX9_tries 169 = .ok (.aload_n 0, 1) := by decide +kernel
theorem dX9_tries_170 : decode cX9_tries 170 = .ok (.getfield 364, 3) := by decide +kernel
theorem dX9_tries_173 : decode cX9_tries 173 = .ok (.iload 8, 2) := by decide +kernel
theorem dX9_tries_175 : decode cX9_tries 175 = .ok (.iadd, 1) := by decide +kernel
theorem dX9_tries_176 : decode cX9_tries 176 = .ok (.putfield 364, 3) := by decide +kernel
theorem dX9_tries_179 : decode cX9_tries 179 = .ok (.aload_n 0, 1) := by decide +kernel
theorem dX9_tries_180 : decode cX9_tries 180 = .ok (.aload_n 0, 1) := by decide +kernel
theorem dX9_tries_181 : decode cX9_tries 181 = .ok (.getfield 367, 3) := by decide +kernel
theorem dX9_tries_184 : decode cX9_tries 184 = .ok (.aload_n 0, 1) := by decide +kernel
theorem dX9_tries_185 : decode cX9_tries 185 = .ok (.invokevirtual 317, 3) := by decide +kernel
theorem dX9_tries_188 : decode cX9_tries 188 = .ok (.invokestatic 305, 3) := by decide +kernel
theorem dX9_tries_191 : decode cX9_tries 191 = .ok (.putfield 367, 3) := by decide +kernel
theorem dX9_tries_194 : decode cX9_tries 194 = .ok (.iinc 4 1, 3) := by decide +kernel
theorem dX9_tries_197 : decode cX9_tries 197 = .ok (.goto (-165), 3) := by decide +kernel
theorem dX9_tries_200 : decode cX9_tries 200 = .ok (.aload_n 0, 1) := by decide +kernel
theorem dX9_tries_201 : decode cX9_tries 201 = .ok (.aload_n 0, 1) := by decide +kernel
theorem dX9_tries_202 : decode cX9_tries 202 = .ok (.invokevirtual 373, 3) := by decide +kernel
theorem dX9_tries_205 : decode cX9_tries 205 = .ok (.putfield 376, 3) := by decide +kernel
theorem dX9_tries_208 : decode cX9_tries 208 = .ok (.aload_n 0, 1) := by decide +kernel
theorem dX9_tries_209 : decode cX9_tries 209 = .ok (.iconst 2, 1) := by decide +kernel
theorem dX9_tries_210 : decode cX9_tries 210 = .ok (.iconst 0, 1) := by decide +kernel
theorem dX9_tries_211 : decode cX9_tries 211 = .ok (.invokevirtual 311, 3) := by decide +kernel
theorem dX9_tries_214 : decode cX9_tries 214 = .ok (.return_, 1) := by decide +kernel
theorem dX9_isTrial_0 : decode cX9_isTrial 0 = .ok (.iload_n 0, 1) := by decide +kernel
theorem dX9_isTrial_1 : decode cX9_isTrial 1 = .ok (.iconst 1, 1) := by decide +kernel
theorem dX9_isTrial_2 : decode cX9_isTrial 2 = .ok (.sipush 200, 3) := by decide +kernel
theorem dX9_isTrial_5 : decode cX9_isTrial 5 = .ok (.invokestatic 83, 3) := by decide +kernel
theorem dX9_isTrial_8 : decode cX9_isTrial 8 = .ok (.ifCond .eq 17, 3) := by decide +kernel
theorem dX9_isTrial_11 : decode cX9_isTrial 11 = .ok (.iload_n 1, 1) := by decide +kernel
theorem dX9_isTrial_12 : decode cX9_isTrial 12 = .ok (.iconst 1, 1) := by decide +kernel
theorem dX9_isTrial_13 : decode cX9_isTrial 13 = .ok (.bipush 64, 2) := by decide +kernel
theorem dX9_isTrial_15 : decode cX9_isTrial 15 = .ok (.invokestatic 83, 3) := by decide +kernel
theorem dX9_isTrial_18 : decode cX9_isTrial 18 = .ok (.ifCond .eq 7, 3) := by decide +kernel
theorem dX9_isTrial_21 : decode cX9_isTrial 21 = .ok (.iconst 1, 1) := by decide +kernel
theorem dX9_isTrial_22 : decode cX9_isTrial 22 = .ok (.goto 4, 3) := by decide +kernel
theorem dX9_isTrial_25 : decode cX9_isTrial 25 = .ok (.iconst 0, 1) := by decide +kernel
theorem dX9_isTrial_26 : decode cX9_isTrial 26 = .ok (.ireturn, 1) := by decide +kernel
theorem dX9_trial_0 : decode cX9_trial 0 = .ok (.iload_n 1, 1) := by decide +kernel
theorem dX9_trial_1 : decode cX9_trial 1 = .ok (.iload_n 2, 1) := by decide +kernel
theorem dX9_trial_2 : decode cX9_trial 2 = .ok (.invokestatic 379, 3) := by decide +kernel
theorem dX9_trial_5 : decode cX9_trial 5 = .ok (.ifCond .eq 20, 3) := by decide +kernel
theorem dX9_trial_8 : decode cX9_trial 8 = .ok (.iload_n 3, 1) := by decide +kernel
theorem dX9_trial_9 : decode cX9_trial 9 = .ok (.invokestatic 265, 3) := by decide +kernel
theorem dX9_trial_12 : decode cX9_trial 12 = .ok (.ifCond .eq 13, 3) := by decide +kernel
theorem dX9_trial_15 : decode cX9_trial 15 = .ok (.iload 4, 2) := by decide +kernel
theorem dX9_trial_17 : decode cX9_trial 17 = .ok (.iconst 0, 1) := by decide +kernel
theorem dX9_trial_18 : decode cX9_trial 18 = .ok (.iconst 3, 1) := by decide +kernel
theorem dX9_trial_19 : decode cX9_trial 19 = .ok (.invokestatic 83, 3) := by decide +kernel
theorem dX9_trial_22 : decode cX9_trial 22 = .ok (.ifCond .ne 6, 3) := by decide +kernel
theorem dX9_trial_25 : decode cX9_trial 25 = .ok (.bipush (-2), 2) := by decide +kernel
theorem dX9_trial_27 : decode cX9_trial 27 = .ok (.ireturn, 1) := by decide +kernel
theorem dX9_trial_28 : decode cX9_trial 28 = .ok (.aload_n 0, 1) := by decide +kernel
theorem dX9_trial_29 : decode cX9_trial 29 = .ok (.iload_n 1, 1) := by decide +kernel
theorem dX9_trial_30 : decode cX9_trial 30 = .ok (.iload_n 2, 1) := by decide +kernel
theorem dX9_trial_31 : decode cX9_trial 31 = .ok (.iload_n 3, 1) := by decide +kernel
theorem dX9_trial_32 : decode cX9_trial 32 = .ok (.invokevirtual 382, 3) := by decide +kernel
theorem dX9_trial_35 : decode cX9_trial 35 = .ok (.iload 4, 2) := by decide +kernel
theorem dX9_trial_37 : decode cX9_trial 37 = .ok (.ifCond .ne 10, 3) := by decide +kernel
theorem dX9_trial_40 : decode cX9_trial 40 = .ok (.aload_n 0, 1) := by decide +kernel
theorem dX9_trial_41 : decode cX9_trial 41 = .ok (.getfield 361, 3) := by decide +kernel
theorem dX9_trial_44 : decode cX9_trial 44 = .ok (.goto 33, 3) := by decide +kernel
theorem dX9_trial_47 : decode cX9_trial 47 = .ok (.iload 4, 2) := by decide +kernel
theorem dX9_trial_49 : decode cX9_trial 49 = .ok (.iconst 1, 1) := by decide +kernel
theorem dX9_trial_50 : decode cX9_trial 50 = .ok (.if_icmp .ne 10, 3) := by decide +kernel
theorem dX9_trial_53 : decode cX9_trial 53 = .ok (.aload_n 0, 1) := by decide +kernel
theorem dX9_trial_54 : decode cX9_trial 54 = .ok (.getfield 364, 3) := by decide +kernel
theorem dX9_trial_57 : decode cX9_trial 57 = .ok (.goto 20, 3) := by decide +kernel
theorem dX9_trial_60 : decode cX9_trial 60 = .ok (.iload 4, 2) := by decide +kernel
theorem dX9_trial_62 : decode cX9_trial 62 = .ok (.iconst 2, 1) := by decide +kernel
theorem dX9_trial_63 : decode cX9_trial 63 = .ok (.if_icmp .ne 10, 3) := by decide +kernel
theorem dX9_trial_66 : decode cX9_trial 66 = .ok (.aload_n 0, 1) := by decide +kernel
theorem dX9_trial_67 : decode cX9_trial 67 = .ok (.getfield 367, 3) := by decide +kernel
theorem dX9_trial_70 : decode cX9_trial 70 = .ok (.goto 7, 3) := by decide +kernel
theorem dX9_trial_73 : decode cX9_trial 73 = .ok (.aload_n 0, 1) := by decide +kernel
theorem dX9_trial_74 : decode cX9_trial 74 = .ok (.getfield 376, 3) := by decide +kernel
theorem dX9_trial_77 : decode cX9_trial 77 = .ok (.ireturn, 1) := by decide +kernel
theorem dX9_bestRule_0 : decode cX9_bestRule 0 = .ok (.iload_n 1, 1) := by decide +kernel
theorem dX9_bestRule_1 : decode cX9_bestRule 1 = .ok (.iload_n 2, 1) := by decide +kernel
theorem dX9_bestRule_2 : decode cX9_bestRule 2 = .ok (.invokestatic 379, 3) := by decide +kernel
theorem dX9_bestRule_5 : decode cX9_bestRule 5 = .ok (.ifCond .ne 6, 3) := by decide +kernel
theorem dX9_bestRule_8 : decode cX9_bestRule 8 = .ok (.bipush (-2), 2) := by decide +kernel
theorem dX9_bestRule_10 : decode cX9_bestRule 10 = .ok (.ireturn, 1) := by decide +kernel
theorem dX9_bestRule_11 : decode cX9_bestRule 11 = .ok (.iconst (-1), 1) := by decide +kernel
theorem dX9_bestRule_12 : decode cX9_bestRule 12 = .ok (.istore_n 3, 1) := by decide +kernel
theorem dX9_bestRule_13 : decode cX9_bestRule 13 = .ok (.ldc 236, 2) := by decide +kernel
theorem dX9_bestRule_15 : decode cX9_bestRule 15 = .ok (.istore 4, 2) := by decide +kernel
theorem dX9_bestRule_17 : decode cX9_bestRule 17 = .ok (.iconst 0, 1) := by decide +kernel
theorem dX9_bestRule_18 : decode cX9_bestRule 18 = .ok (.istore 5, 2) := by decide +kernel
theorem dX9_bestRule_20 : decode cX9_bestRule 20 = .ok (.iload 5, 2) := by decide +kernel
theorem dX9_bestRule_22 : decode cX9_bestRule 22 = .ok (.iconst 4, 1) := by decide +kernel
theorem dX9_bestRule_23 : decode cX9_bestRule 23 = .ok (.if_icmp .ge 40, 3) := by decide +kernel
theorem dX9_bestRule_26 : decode cX9_bestRule 26 = .ok (.aload_n 0, 1) := by decide +kernel
theorem dX9_bestRule_27 : decode cX9_bestRule 27 = .ok (.iload_n 1, 1) := by decide +kernel
theorem dX9_bestRule_28 : decode cX9_bestRule 28 = .ok (.iload_n 2, 1) := by decide +kernel
theorem dX9_bestRule_29 : decode cX9_bestRule 29 = .ok (.iload 5, 2) := by decide +kernel
theorem dX9_bestRule_31 : decode cX9_bestRule 31 = .ok (.invokevirtual 382, 3) := by decide +kernel
theorem dX9_bestRule_34 : decode cX9_bestRule 34 = .ok (.aload_n 0, 1) := by decide +kernel
theorem dX9_bestRule_35 : decode cX9_bestRule 35 = .ok (.getfield 361, 3) := by decide +kernel
theorem dX9_bestRule_38 : decode cX9_bestRule 38 = .ok (.iload 4, 2) := by decide +kernel
theorem dX9_bestRule_40 : decode cX9_bestRule 40 = .ok (.if_icmp .ge 6, 3) := by decide +kernel
theorem dX9_bestRule_43 : decode cX9_bestRule 43 = .ok (.iload 5, 2) := by decide +kernel
theorem dX9_bestRule_45 : decode cX9_bestRule 45 = .ok (.istore_n 3, 1) := by decide +kernel
theorem dX9_bestRule_46 : decode cX9_bestRule 46 = .ok (.iload 4, 2) := by decide +kernel
theorem dX9_bestRule_48 : decode cX9_bestRule 48 = .ok (.aload_n 0, 1) := by decide +kernel
theorem dX9_bestRule_49 : decode cX9_bestRule 49 = .ok (.getfield 361, 3) := by decide +kernel
theorem dX9_bestRule_52 : decode cX9_bestRule 52 = .ok (.invokestatic 198, 3) := by decide +kernel
theorem dX9_bestRule_55 : decode cX9_bestRule 55 = .ok (.istore 4, 2) := by decide +kernel
theorem dX9_bestRule_57 : decode cX9_bestRule 57 = .ok (.iinc 5 1, 3) := by decide +kernel
theorem dX9_bestRule_60 : decode cX9_bestRule 60 = .ok (.goto (-40), 3) := by decide +kernel
theorem dX9_bestRule_63 : decode cX9_bestRule 63 = .ok (.iload_n 3, 1) := by decide +kernel
theorem dX9_bestRule_64 : decode cX9_bestRule 64 = .ok (.ireturn, 1) := by decide +kernel
theorem dX9_partOf_0 : decode cX9_partOf 0 = .ok (.iload_n 1, 1) := by decide +kernel
theorem dX9_partOf_1 : decode cX9_partOf 1 = .ok (.istore_n 3, 1) := by decide +kernel
theorem dX9_partOf_2 : decode cX9_partOf 2 = .ok (.iload_n 3, 1) := by decide +kernel
theorem dX9_partOf_3 : decode cX9_partOf 3 = .ok (.ifCond .le 20, 3) := by decide +kernel
theorem dX9_partOf_6 : decode cX9_partOf 6 = .ok (.aload_n 0, 1) := by decide +kernel
theorem dX9_partOf_7 : decode cX9_partOf 7 = .ok (.iload_n 3, 1) := by decide +kernel
theorem dX9_partOf_8 : decode cX9_partOf 8 = .ok (.iload_n 2, 1) := by decide +kernel
theorem dX9_partOf_9 : decode cX9_partOf 9 = .ok (.invokevirtual 253, 3) := by decide +kernel
theorem dX9_partOf_12 : decode cX9_partOf 12 = .ok (.ifCond .eq 5, 3) := by decide +kernel
theorem dX9_partOf_15 : decode cX9_partOf 15 = .ok (.iload_n 3, 1) := by decide +kernel
theorem dX9_partOf_16 : decode cX9_partOf 16 = .ok (.ireturn, 1) := by decide +kernel
theorem dX9_partOf_17 : decode cX9_partOf 17 = .ok (.iinc 3 (-1), 3) := by decide +kernel
theorem dX9_partOf_20 : decode cX9_partOf 20 = .ok (.goto (-18), 3) := by decide +kernel
theorem dX9_partOf_23 : decode cX9_partOf 23 = .ok (.iconst 0, 1) := by decide +kernel
theorem dX9_partOf_24 : decode cX9_partOf 24 = .ok (.ireturn, 1) := by decide +kernel
theorem dX9_parts_0 : decode cX9_parts 0 = .ok (.aload_n 0, 1) := by decide +kernel
theorem dX9_parts_1 : decode cX9_parts 1 = .ok (.iload_n 1, 1) := by decide +kernel
theorem dX9_parts_2 : decode cX9_parts 2 = .ok (.iload_n 2, 1) := by decide +kernel
theorem dX9_parts_3 : decode cX9_parts 3 = .ok (.iload_n 3, 1) := by decide +kernel
theorem dX9_parts_4 : decode cX9_parts 4 = .ok (.iload 4, 2) := by decide +kernel
theorem dX9_parts_6 : decode cX9_parts 6 = .ok (.invokevirtual 268, 3) := by decide +kernel
theorem dX9_parts_9 : decode cX9_parts 9 = .ok (.ifCond .ne 5, 3) := by decide +kernel
theorem dX9_parts_12 : decode cX9_parts 12 = .ok (.iconst (-1), 1) := by decide +kernel
theorem dX9_parts_13 : decode cX9_parts 13 = .ok (.ireturn, 1) := by decide +kernel
theorem dX9_parts_14 : decode cX9_parts 14 = .ok (.aload_n 0, 1) := by decide +kernel
theorem dX9_parts_15 : decode cX9_parts 15 = .ok (.iconst 0, 1) := by decide +kernel
theorem dX9_parts_16 : decode cX9_parts 16 = .ok (.iconst 2, 1) := by decide +kernel
theorem dX9_parts_17 : decode cX9_parts 17 = .ok (.invokevirtual 311, 3) := by decide +kernel
theorem dX9_parts_20 : decode cX9_parts 20 = .ok (.aload_n 0, 1) := by decide +kernel
theorem dX9_parts_21 : decode cX9_parts 21 = .ok (.iload_n 1, 1) := by decide +kernel
theorem dX9_parts_22 : decode cX9_parts 22 = .ok (.iload_n 2, 1) := by decide +kernel
theorem dX9_parts_23 : decode cX9_parts 23 = .ok (.invokevirtual 215, 3) := by decide +kernel
theorem dX9_parts_26 : decode cX9_parts 26 = .ok (.iload_n 3, 1) := by decide +kernel
theorem dX9_parts_27 : decode cX9_parts 27 = .ok (.istore 5, 2) := by decide +kernel
theorem dX9_parts_29 : decode cX9_parts 29 = .ok (.iconst 0, 1) := by decide +kernel
theorem dX9_parts_30 : decode cX9_parts 30 = .ok (.istore 6, 2) := by decide +kernel
theorem dX9_parts_32 : decode cX9_parts 32 = .ok (.aload_n 0, 1) := by decide +kernel
theorem dX9_parts_33 : decode cX9_parts 33 = .ok (.iload 5, 2) := by decide +kernel
theorem dX9_parts_35 : decode cX9_parts 35 = .ok (.iload 4, 2) := by decide +kernel
theorem dX9_parts_37 : decode cX9_parts 37 = .ok (.invokevirtual 385, 3) := by decide +kernel
theorem dX9_parts_40 : decode cX9_parts 40 = .ok (.istore 7, 2) := by decide +kernel
theorem dX9_parts_42 : decode cX9_parts 42 = .ok (.iload 6, 2) := by decide +kernel
theorem dX9_parts_44 : decode cX9_parts 44 = .ok (.bipush 20, 2) := by decide +kernel
theorem dX9_parts_46 : decode cX9_parts 46 = .ok (.if_icmp .ge 45, 3) := by decide +kernel
theorem dX9_parts_49 : decode cX9_parts 49 = .ok (.iload 7, 2) := by decide +kernel
theorem dX9_parts_51 : decode cX9_parts 51 = .ok (.ifCond .le 40, 3) := by decide +kernel
theorem dX9_parts_54 : decode cX9_parts 54 = .ok (.aload_n 0, 1) := by decide +kernel
theorem dX9_parts_55 : decode cX9_parts 55 = .ok (.iload_n 1, 1) := by decide +kernel
theorem dX9_parts_56 : decode cX9_parts 56 = .ok (.iload_n 2, 1) := by decide +kernel
theorem dX9_parts_57 : decode cX9_parts 57 = .ok (.iload 7, 2) := by decide +kernel
theorem dX9_parts_59 : decode cX9_parts 59 = .ok (.iconst 1, 1) := by decide +kernel
theorem dX9_parts_60 : decode cX9_parts 60 = .ok (.invokevirtual 274, 3) := by decide +kernel
theorem dX9_parts_63 : decode cX9_parts 63 = .ok (.istore 8, 2) := by decide +kernel
theorem dX9_parts_65 : decode cX9_parts 65 = .ok (.iload 5, 2) := by decide +kernel
theorem dX9_parts_67 : decode cX9_parts 67 = .ok (.iload 7, 2) := by decide +kernel
theorem dX9_parts_69 : decode cX9_parts 69 = .ok (.isub, 1) := by decide +kernel
theorem dX9_parts_70 : decode cX9_parts 70 = .ok (.istore 5, 2) := by decide +kernel
theorem dX9_parts_72 : decode cX9_parts 72 = .ok (.iload 6, 2) := by decide +kernel
theorem dX9_parts_74 : decode cX9_parts 74 = .ok (.iconst 1, 1) := by decide +kernel
theorem dX9_parts_75 : decode cX9_parts 75 = .ok (.iadd, 1) := by decide +kernel
theorem dX9_parts_76 : decode cX9_parts 76 = .ok (.istore 6, 2) := by decide +kernel
theorem dX9_parts_78 : decode cX9_parts 78 = .ok (.aload_n 0, 1) := by decide +kernel
theorem dX9_parts_79 : decode cX9_parts 79 = .ok (.iload 5, 2) := by decide +kernel
theorem dX9_parts_81 : decode cX9_parts 81 = .ok (.iload 4, 2) := by decide +kernel
theorem dX9_parts_83 : decode cX9_parts 83 = .ok (.invokevirtual 385, 3) := by decide +kernel
theorem dX9_parts_86 : decode cX9_parts 86 = .ok (.istore 7, 2) := by decide +kernel
theorem dX9_parts_88 : decode cX9_parts 88 = .ok (.goto (-46), 3) := by decide +kernel
theorem dX9_parts_91 : decode cX9_parts 91 = .ok (.aload_n 0, 1) := by decide +kernel
theorem dX9_parts_92 : decode cX9_parts 92 = .ok (.iconst 2, 1) := by decide +kernel
theorem dX9_parts_93 : decode cX9_parts 93 = .ok (.iconst 0, 1) := by decide +kernel
theorem dX9_parts_94 : decode cX9_parts 94 = .ok (.invokevirtual 311, 3) := by decide +kernel
theorem dX9_parts_97 : decode cX9_parts 97 = .ok (.iload 5, 2) := by decide +kernel
theorem dX9_parts_99 : decode cX9_parts 99 = .ok (.ifCond .le 8, 3) := by decide +kernel
theorem dX9_parts_102 : decode cX9_parts 102 = .ok (.bipush (-2), 2) := by decide +kernel
theorem dX9_parts_104 : decode cX9_parts 104 = .ok (.goto 5, 3) := by decide +kernel
theorem dX9_parts_107 : decode cX9_parts 107 = .ok (.iload 6, 2) := by decide +kernel
theorem dX9_parts_109 : decode cX9_parts 109 = .ok (.ireturn, 1) := by decide +kernel
theorem dX9_more_0 : decode cX9_more 0 = .ok (.aload_n 0, 1) := by decide +kernel
theorem dX9_more_1 : decode cX9_more 1 = .ok (.iload_n 1, 1) := by decide +kernel
theorem dX9_more_2 : decode cX9_more 2 = .ok (.iload_n 2, 1) := by decide +kernel
theorem dX9_more_3 : decode cX9_more 3 = .ok (.iload_n 3, 1) := by decide +kernel
theorem dX9_more_4 : decode cX9_more 4 = .ok (.iload 4, 2) := by decide +kernel
theorem dX9_more_6 : decode cX9_more 6 = .ok (.invokevirtual 268, 3) := by decide +kernel
theorem dX9_more_9 : decode cX9_more 9 = .ok (.ifCond .ne 5, 3) := by decide +kernel
theorem dX9_more_12 : decode cX9_more 12 = .ok (.iconst (-1), 1) := by decide +kernel
theorem dX9_more_13 : decode cX9_more 13 = .ok (.ireturn, 1) := by decide +kernel
theorem dX9_more_14 : decode cX9_more 14 = .ok (.aload_n 0, 1) := by decide +kernel
theorem dX9_more_15 : decode cX9_more 15 = .ok (.iconst 0, 1) := by decide +kernel
theorem dX9_more_16 : decode cX9_more 16 = .ok (.iconst 2, 1) := by decide +kernel
theorem dX9_more_17 : decode cX9_more 17 = .ok (.invokevirtual 311, 3) := by decide +kernel
theorem dX9_more_20 : decode cX9_more 20 = .ok (.aload_n 0, 1) := by decide +kernel
theorem dX9_more_21 : decode cX9_more 21 = .ok (.iload_n 1, 1) := by decide +kernel
theorem dX9_more_22 : decode cX9_more 22 = .ok (.iload_n 2, 1) := by decide +kernel
theorem dX9_more_23 : decode cX9_more 23 = .ok (.invokevirtual 215, 3) := by decide +kernel
theorem dX9_more_26 : decode cX9_more 26 = .ok (.iconst 0, 1) := by decide +kernel
theorem dX9_more_27 : decode cX9_more 27 = .ok (.istore 5, 2) := by decide +kernel
theorem dX9_more_29 : decode cX9_more 29 = .ok (.aload_n 0, 1) := by decide +kernel
theorem dX9_more_30 : decode cX9_more 30 = .ok (.iload_n 3, 1) := by decide +kernel
theorem dX9_more_31 : decode cX9_more 31 = .ok (.iload 4, 2) := by decide +kernel
theorem dX9_more_33 : decode cX9_more 33 = .ok (.invokevirtual 253, 3) := by decide +kernel
theorem dX9_more_36 : decode cX9_more 36 = .ok (.ifCond .eq 22, 3) := by decide +kernel
theorem dX9_more_39 : decode cX9_more 39 = .ok (.aload_n 0, 1) := by decide +kernel
theorem dX9_more_40 : decode cX9_more 40 = .ok (.iload_n 1, 1) := by decide +kernel
theorem dX9_more_41 : decode cX9_more 41 = .ok (.iload_n 2, 1) := by decide +kernel
theorem dX9_more_42 : decode cX9_more 42 = .ok (.iload_n 3, 1) := by decide +kernel
theorem dX9_more_43 : decode cX9_more 43 = .ok (.iconst 1, 1) := by decide +kernel
theorem dX9_more_44 : decode cX9_more 44 = .ok (.invokevirtual 274, 3) := by decide +kernel
theorem dX9_more_47 : decode cX9_more 47 = .ok (.istore 6, 2) := by decide +kernel
theorem dX9_more_49 : decode cX9_more 49 = .ok (.iload 5, 2) := by decide +kernel
theorem dX9_more_51 : decode cX9_more 51 = .ok (.iconst 1, 1) := by decide +kernel
theorem dX9_more_52 : decode cX9_more 52 = .ok (.iadd, 1) := by decide +kernel
theorem dX9_more_53 : decode cX9_more 53 = .ok (.istore 5, 2) := by decide +kernel
theorem dX9_more_55 : decode cX9_more 55 = .ok (.goto (-26), 3) := by decide +kernel
theorem dX9_more_58 : decode cX9_more 58 = .ok (.aload_n 0, 1) := by decide +kernel
theorem dX9_more_59 : decode cX9_more 59 = .ok (.iconst 2, 1) := by decide +kernel
theorem dX9_more_60 : decode cX9_more 60 = .ok (.iconst 0, 1) := by decide +kernel
theorem dX9_more_61 : decode cX9_more 61 = .ok (.invokevirtual 311, 3) := by decide +kernel
theorem dX9_more_64 : decode cX9_more 64 = .ok (.iload 5, 2) := by decide +kernel
theorem dX9_more_66 : decode cX9_more 66 = .ok (.ireturn, 1) := by decide +kernel
theorem dX9_ifCut_0 : decode cX9_ifCut 0 = .ok (.aload_n 0, 1) := by decide +kernel
theorem dX9_ifCut_1 : decode cX9_ifCut 1 = .ok (.iload_n 1, 1) := by decide +kernel
theorem dX9_ifCut_2 : decode cX9_ifCut 2 = .ok (.invokevirtual 296, 3) := by decide +kernel
theorem dX9_ifCut_5 : decode cX9_ifCut 5 = .ok (.ifCond .eq 19, 3) := by decide +kernel
theorem dX9_ifCut_8 : decode cX9_ifCut 8 = .ok (.iload_n 2, 1) := by decide +kernel
theorem dX9_ifCut_9 : decode cX9_ifCut 9 = .ok (.invokestatic 265, 3) := by decide +kernel
theorem dX9_ifCut_12 : decode cX9_ifCut 12 = .ok (.ifCond .eq 12, 3) := by decide +kernel
theorem dX9_ifCut_15 : decode cX9_ifCut 15 = .ok (.iload_n 3, 1) := by decide +kernel
theorem dX9_ifCut_16 : decode cX9_ifCut 16 = .ok (.iconst 0, 1) := by decide +kernel
theorem dX9_ifCut_17 : decode cX9_ifCut 17 = .ok (.iconst 2, 1) := by decide +kernel
theorem dX9_ifCut_18 : decode cX9_ifCut 18 = .ok (.invokestatic 83, 3) := by decide +kernel
theorem dX9_ifCut_21 : decode cX9_ifCut 21 = .ok (.ifCond .ne 5, 3) := by decide +kernel
theorem dX9_ifCut_24 : decode cX9_ifCut 24 = .ok (.iconst (-1), 1) := by decide +kernel
theorem dX9_ifCut_25 : decode cX9_ifCut 25 = .ok (.ireturn, 1) := by decide +kernel
theorem dX9_ifCut_26 : decode cX9_ifCut 26 = .ok (.aload_n 0, 1) := by decide +kernel
theorem dX9_ifCut_27 : decode cX9_ifCut 27 = .ok (.iload_n 1, 1) := by decide +kernel
theorem dX9_ifCut_28 : decode cX9_ifCut 28 = .ok (.invokevirtual 182, 3) := by decide +kernel
theorem dX9_ifCut_31 : decode cX9_ifCut 31 = .ok (.ifCond .ne 6, 3) := by decide +kernel
theorem dX9_ifCut_34 : decode cX9_ifCut 34 = .ok (.bipush (-2), 2) := by decide +kernel
theorem dX9_ifCut_36 : decode cX9_ifCut 36 = .ok (.ireturn, 1) := by decide +kernel
theorem dX9_ifCut_37 : decode cX9_ifCut 37 = .ok (.aload_n 0, 1) := by decide +kernel
theorem dX9_ifCut_38 : decode cX9_ifCut 38 = .ok (.iconst 0, 1) := by decide +kernel
theorem dX9_ifCut_39 : decode cX9_ifCut 39 = .ok (.iconst 2, 1) := by decide +kernel
theorem dX9_ifCut_40 : decode cX9_ifCut 40 = .ok (.invokevirtual 311, 3) := by decide +kernel
theorem dX9_ifCut_43 : decode cX9_ifCut 43 = .ok (.aload_n 0, 1) := by decide +kernel
theorem dX9_ifCut_44 : decode cX9_ifCut 44 = .ok (.iload_n 1, 1) := by decide +kernel
theorem dX9_ifCut_45 : decode cX9_ifCut 45 = .ok (.invokevirtual 299, 3) := by decide +kernel
theorem dX9_ifCut_48 : decode cX9_ifCut 48 = .ok (.istore 4, 2) := by decide +kernel
theorem dX9_ifCut_50 : decode cX9_ifCut 50 = .ok (.aload_n 0, 1) := by decide +kernel
theorem dX9_ifCut_51 : decode cX9_ifCut 51 = .ok (.iload_n 2, 1) := by decide +kernel
theorem dX9_ifCut_52 : decode cX9_ifCut 52 = .ok (.invokevirtual 302, 3) := by decide +kernel
theorem dX9_ifCut_55 : decode cX9_ifCut 55 = .ok (.istore 5, 2) := by decide +kernel
theorem dX9_ifCut_57 : decode cX9_ifCut 57 = .ok (.aload_n 0, 1) := by decide +kernel
theorem dX9_ifCut_58 : decode cX9_ifCut 58 = .ok (.invokevirtual 317, 3) := by decide +kernel
theorem dX9_ifCut_61 : decode cX9_ifCut 61 = .ok (.istore 6, 2) := by decide +kernel
theorem dX9_ifCut_63 : decode cX9_ifCut 63 = .ok (.aload_n 0, 1) := by decide +kernel
theorem dX9_ifCut_64 : decode cX9_ifCut 64 = .ok (.iconst 2, 1) := by decide +kernel
theorem dX9_ifCut_65 : decode cX9_ifCut 65 = .ok (.iconst 0, 1) := by decide +kernel
theorem dX9_ifCut_66 : decode cX9_ifCut 66 = .ok (.invokevirtual 311, 3) := by decide +kernel
theorem dX9_ifCut_69 : decode cX9_ifCut 69 = .ok (.iload_n 3, 1) := by decide +kernel
theorem dX9_ifCut_70 : decode cX9_ifCut 70 = .ok (.ifCond .ne 8, 3) := by decide +kernel
theorem dX9_ifCut_73 : decode cX9_ifCut 73 = .ok (.iload 4, 2) := by decide +kernel
theorem dX9_ifCut_75 : decode cX9_ifCut 75 = .ok (.goto 15, 3) := by decide +kernel
theorem dX9_ifCut_78 : decode cX9_ifCut 78 = .ok (.iload_n 3, 1) := by decide +kernel
theorem dX9_ifCut_79 : decode cX9_ifCut 79 = .ok (.iconst 1, 1) := by decide +kernel
theorem dX9_ifCut_80 : decode cX9_ifCut 80 = .ok (.if_icmp .ne 8, 3) := by decide +kernel
theorem dX9_ifCut_83 : decode cX9_ifCut 83 = .ok (.iload 5, 2) := by decide +kernel
theorem dX9_ifCut_85 : decode cX9_ifCut 85 = .ok (.goto 5, 3) := by decide +kernel
theorem dX9_ifCut_88 : decode cX9_ifCut 88 = .ok (.iload 6, 2) := by decide +kernel
theorem dX9_ifCut_90 : decode cX9_ifCut 90 = .ok (.ireturn, 1) := by decide +kernel
theorem dX9_numbersOf_0 : decode cX9_numbersOf 0 = .ok (.lload_n 0, 1) := by decide +kernel
theorem dX9_numbersOf_1 : decode cX9_numbersOf 1 = .ok (.ldc2_w 388, 3) := by decide +kernel
theorem dX9_numbersOf_4 : decode cX9_numbersOf 4 = .ok (.lcmp, 1) := by decide +kernel
theorem dX9_numbersOf_5 : decode cX9_numbersOf 5 = .ok (.ifCond .ne 5, 3) := by decide +kernel
theorem dX9_numbersOf_8 : decode cX9_numbersOf 8 = .ok (.iconst 4, 1) := by decide +kernel
theorem dX9_numbersOf_9 : decode cX9_numbersOf 9 = .ok (.ireturn, 1) := by decide +kernel
theorem dX9_numbersOf_10 : decode cX9_numbersOf 10 = .ok (.lload_n 0, 1) := by decide +kernel
theorem dX9_numbersOf_11 : decode cX9_numbersOf 11 = .ok (.ldc2_w 390, 3) := by decide +kernel
theorem dX9_numbersOf_14 : decode cX9_numbersOf 14 = .ok (.lcmp, 1) := by decide +kernel
theorem dX9_numbersOf_15 : decode cX9_numbersOf 15 = .ok (.ifCond .eq 11, 3) := by decide +kernel
theorem dX9_numbersOf_18 : decode cX9_numbersOf 18 = .ok (.lload_n 0, 1) := by decide +kernel
theorem dX9_numbersOf_19 : decode cX9_numbersOf 19 = .ok (.ldc2_w 392, 3) := by decide +kernel
theorem dX9_numbersOf_22 : decode cX9_numbersOf 22 = .ok (.lcmp, 1) := by decide +kernel
theorem dX9_numbersOf_23 : decode cX9_numbersOf 23 = .ok (.ifCond .ne 5, 3) := by decide +kernel
theorem dX9_numbersOf_26 : decode cX9_numbersOf 26 = .ok (.iconst 2, 1) := by decide +kernel
theorem dX9_numbersOf_27 : decode cX9_numbersOf 27 = .ok (.ireturn, 1) := by decide +kernel
theorem dX9_numbersOf_28 : decode cX9_numbersOf 28 = .ok (.lload_n 0, 1) := by decide +kernel
theorem dX9_numbersOf_29 : decode cX9_numbersOf 29 = .ok (.ldc2_w 394, 3) := by decide +kernel
theorem dX9_numbersOf_32 : decode cX9_numbersOf 32 = .ok (.lcmp, 1) := by decide +kernel
theorem dX9_numbersOf_33 : decode cX9_numbersOf 33 = .ok (.ifCond .ne 5, 3) := by decide +kernel
theorem dX9_numbersOf_36 : decode cX9_numbersOf 36 = .ok (.iconst 0, 1) := by decide +kernel
theorem dX9_numbersOf_37 : decode cX9_numbersOf 37 = .ok (.ireturn, 1) := by decide +kernel
theorem dX9_numbersOf_38 : decode cX9_numbersOf 38 = .ok (.lload_n 0, 1) := by decide +kernel
theorem dX9_numbersOf_39 : decode cX9_numbersOf 39 = .ok (.ldc2_w 396, 3) := by decide +kernel
theorem dX9_numbersOf_42 : decode cX9_numbersOf 42 = .ok (.lcmp, 1) := by decide +kernel
theorem dX9_numbersOf_43 : decode cX9_numbersOf 43 = .ok (.ifCond .eq 51, 3) := by decide +kernel
theorem dX9_numbersOf_46 : decode cX9_numbersOf 46 = .ok (.lload_n 0, 1) := by decide +kernel
theorem dX9_numbersOf_47 : decode cX9_numbersOf 47 = .ok (.ldc2_w 398, 3) := by decide +kernel
theorem dX9_numbersOf_50 : decode cX9_numbersOf 50 = .ok (.lcmp, 1) := by decide +kernel
theorem dX9_numbersOf_51 : decode cX9_numbersOf 51 = .ok (.ifCond .eq 43, 3) := by decide +kernel
theorem dX9_numbersOf_54 : decode cX9_numbersOf 54 = .ok (.lload_n 0, 1) := by decide +kernel
theorem dX9_numbersOf_55 : decode cX9_numbersOf 55 = .ok (.ldc2_w 400, 3) := by decide +kernel
theorem dX9_numbersOf_58 : decode cX9_numbersOf 58 = .ok (.lcmp, 1) := by decide +kernel
theorem dX9_numbersOf_59 : decode cX9_numbersOf 59 = .ok (.ifCond .eq 35, 3) := by decide +kernel
theorem dX9_numbersOf_62 : decode cX9_numbersOf 62 = .ok (.lload_n 0, 1) := by decide +kernel
theorem dX9_numbersOf_63 : decode cX9_numbersOf 63 = .ok (.ldc2_w 402, 3) := by decide +kernel
theorem dX9_numbersOf_66 : decode cX9_numbersOf 66 = .ok (.lcmp, 1) := by decide +kernel
theorem dX9_numbersOf_67 : decode cX9_numbersOf 67 = .ok (.ifCond .eq 27, 3) := by decide +kernel
theorem dX9_numbersOf_70 : decode cX9_numbersOf 70 = .ok (.lload_n 0, 1) := by decide +kernel
theorem dX9_numbersOf_71 : decode cX9_numbersOf 71 = .ok (.ldc2_w 404, 3) := by decide +kernel
theorem dX9_numbersOf_74 : decode cX9_numbersOf 74 = .ok (.lcmp, 1) := by decide +kernel
theorem dX9_numbersOf_75 : decode cX9_numbersOf 75 = .ok (.ifCond .eq 19, 3) := by decide +kernel
theorem dX9_numbersOf_78 : decode cX9_numbersOf 78 = .ok (.lload_n 0, 1) := by decide +kernel
theorem dX9_numbersOf_79 : decode cX9_numbersOf 79 = .ok (.ldc2_w 406, 3) := by decide +kernel
theorem dX9_numbersOf_82 : decode cX9_numbersOf 82 = .ok (.lcmp, 1) := by decide +kernel
theorem dX9_numbersOf_83 : decode cX9_numbersOf 83 = .ok (.ifCond .eq 11, 3) := by decide +kernel
theorem dX9_numbersOf_86 : decode cX9_numbersOf 86 = .ok (.lload_n 0, 1) := by decide +kernel
theorem dX9_numbersOf_87 : decode cX9_numbersOf 87 = .ok (.ldc2_w 408, 3) := by decide +kernel
theorem dX9_numbersOf_90 : decode cX9_numbersOf 90 = .ok (.lcmp, 1) := by decide +kernel
theorem dX9_numbersOf_91 : decode cX9_numbersOf 91 = .ok (.ifCond .ne 7, 3) := by decide +kernel
theorem dX9_numbersOf_94 : decode cX9_numbersOf 94 = .ok (.iconst 1, 1) := by decide +kernel
theorem dX9_numbersOf_95 : decode cX9_numbersOf 95 = .ok (.goto 4, 3) := by decide +kernel
theorem dX9_numbersOf_98 : decode cX9_numbersOf 98 = .ok (.iconst (-1), 1) := by decide +kernel
theorem dX9_numbersOf_99 : decode cX9_numbersOf 99 = .ok (.ireturn, 1) := by decide +kernel
theorem dX9_isRuleAt_0 : decode cX9_isRuleAt 0 = .ok (.lload_n 0, 1) := by decide +kernel
theorem dX9_isRuleAt_1 : decode cX9_isRuleAt 1 = .ok (.ldc2_w 388, 3) := by decide +kernel
theorem dX9_isRuleAt_4 : decode cX9_isRuleAt 4 = .ok (.lcmp, 1) := by decide +kernel
theorem dX9_isRuleAt_5 : decode cX9_isRuleAt 5 = .ok (.ifCond .ne 8, 3) := by decide +kernel
theorem dX9_isRuleAt_8 : decode cX9_isRuleAt 8 = .ok (.iload_n 2, 1) := by decide +kernel
theorem dX9_isRuleAt_9 : decode cX9_isRuleAt 9 = .ok (.iconst 3, 1) := by decide +kernel
theorem dX9_isRuleAt_10 : decode cX9_isRuleAt 10 = .ok (.if_icmp .eq 19, 3) := by decide +kernel
theorem dX9_isRuleAt_13 : decode cX9_isRuleAt 13 = .ok (.lload_n 0, 1) := by decide +kernel
theorem dX9_isRuleAt_14 : decode cX9_isRuleAt 14 = .ok (.ldc2_w 404, 3) := by decide +kernel
theorem dX9_isRuleAt_17 : decode cX9_isRuleAt 17 = .ok (.lcmp, 1) := by decide +kernel
theorem dX9_isRuleAt_18 : decode cX9_isRuleAt 18 = .ok (.ifCond .eq 11, 3) := by decide +kernel
theorem dX9_isRuleAt_21 : decode cX9_isRuleAt 21 = .ok (.lload_n 0, 1) := by decide +kernel
theorem dX9_isRuleAt_22 : decode cX9_isRuleAt 22 = .ok (.ldc2_w 406, 3) := by decide +kernel
theorem dX9_isRuleAt_25 : decode cX9_isRuleAt 25 = .ok (.lcmp, 1) := by decide +kernel
theorem dX9_isRuleAt_26 : decode cX9_isRuleAt 26 = .ok (.ifCond .ne 7, 3) := by decide +kernel
theorem dX9_isRuleAt_29 : decode cX9_isRuleAt 29 = .ok (.iconst 1, 1) := by decide +kernel
theorem dX9_isRuleAt_30 : decode cX9_isRuleAt 30 = .ok (.goto 4, 3) := by decide +kernel
theorem dX9_isRuleAt_33 : decode cX9_isRuleAt 33 = .ok (.iconst 0, 1) := by decide +kernel
theorem dX9_isRuleAt_34 : decode cX9_isRuleAt 34 = .ok (.ireturn, 1) := by decide +kernel
theorem dX9_readsStep_0 : decode cX9_readsStep 0 = .ok (.aload_n 0, 1) := by decide +kernel
theorem dX9_readsStep_1 : decode cX9_readsStep 1 = .ok (.getfield 138, 3) := by decide +kernel
theorem dX9_readsStep_4 : decode cX9_readsStep 4 = .ok (.bipush 24, 2) := by decide +kernel
theorem dX9_readsStep_6 : decode cX9_readsStep 6 = .ok (.if_icmp .ne 13, 3) := by decide +kernel
theorem dX9_readsStep_9 : decode cX9_readsStep 9 = .ok (.aload_n 0, 1) := by decide +kernel
theorem dX9_readsStep_10 : decode cX9_readsStep 10 = .ok (.iconst 4, 1) := by decide +kernel
theorem dX9_readsStep_11 : decode cX9_readsStep 11 = .ok (.aload_n 0, 1) := by decide +kernel
theorem dX9_readsStep_12 : decode cX9_readsStep 12 = .ok (.getfield 95, 3) := by decide +kernel
theorem dX9_readsStep_15 : decode cX9_readsStep 15 = .ok (.invokevirtual 108, 3) := by decide +kernel
theorem dX9_readsStep_18 : decode cX9_readsStep 18 = .ok (.ireturn, 1) := by decide +kernel
theorem dX9_readsStep_19 : decode cX9_readsStep 19 = .ok (.aload_n 0, 1) := by decide +kernel
theorem dX9_readsStep_20 : decode cX9_readsStep 20 = .ok (.invokevirtual 147, 3) := by decide +kernel
theorem dX9_readsStep_23 : decode cX9_readsStep 23 = .ok (.aload_n 0, 1) := by decide +kernel
theorem dX9_readsStep_24 : decode cX9_readsStep 24 = .ok (.getfield 115, 3) := by decide +kernel
theorem dX9_readsStep_27 : decode cX9_readsStep 27 = .ok (.invokestatic 410, 3) := by decide +kernel
theorem dX9_readsStep_30 : decode cX9_readsStep 30 = .ok (.istore_n 1, 1) := by decide +kernel
theorem dX9_readsStep_31 : decode cX9_readsStep 31 = .ok (.iload_n 1, 1) := by decide +kernel
theorem dX9_readsStep_32 : decode cX9_readsStep 32 = .ok (.iconst (-1), 1) := by decide +kernel
theorem dX9_readsStep_33 : decode cX9_readsStep 33 = .ok (.if_icmp .ne 13, 3) := by decide +kernel
theorem dX9_readsStep_36 : decode cX9_readsStep 36 = .ok (.aload_n 0, 1) := by decide +kernel
theorem dX9_readsStep_37 : decode cX9_readsStep 37 = .ok (.iconst 1, 1) := by decide +kernel
theorem dX9_readsStep_38 : decode cX9_readsStep 38 = .ok (.aload_n 0, 1) := by decide +kernel
theorem dX9_readsStep_39 : decode cX9_readsStep 39 = .ok (.getfield 112, 3) := by decide +kernel
theorem dX9_readsStep_42 : decode cX9_readsStep 42 = .ok (.invokevirtual 108, 3) := by decide +kernel
theorem dX9_readsStep_45 : decode cX9_readsStep 45 = .ok (.ireturn, 1) := by decide +kernel
theorem dX9_readsStep_46 : decode cX9_readsStep 46 = .ok (.aload_n 0, 1) := by decide +kernel
theorem dX9_readsStep_47 : decode cX9_readsStep 47 = .ok (.getfield 66, 3) := by decide +kernel
theorem dX9_readsStep_50 : decode cX9_readsStep 50 = .ok (.aload_n 0, 1) := by decide +kernel
theorem dX9_readsStep_51 : decode cX9_readsStep 51 = .ok (.getfield 138, 3) := by decide +kernel
theorem dX9_readsStep_54 : decode cX9_readsStep 54 = .ok (.aload_n 0, 1) := by decide +kernel
theorem dX9_readsStep_55 : decode cX9_readsStep 55 = .ok (.getfield 115, 3) := by decide +kernel
theorem dX9_readsStep_58 : decode cX9_readsStep 58 = .ok (.lastore, 1) := by decide +kernel
theorem dX9_readsStep_59 : decode cX9_readsStep 59 = .ok (.iconst 0, 1) := by decide +kernel
theorem dX9_readsStep_60 : decode cX9_readsStep 60 = .ok (.istore_n 2, 1) := by decide +kernel
theorem dX9_readsStep_61 : decode cX9_readsStep 61 = .ok (.iload_n 2, 1) := by decide +kernel
theorem dX9_readsStep_62 : decode cX9_readsStep 62 = .ok (.iload_n 1, 1) := by decide +kernel
theorem dX9_readsStep_63 : decode cX9_readsStep 63 = .ok (.if_icmp .ge 53, 3) := by decide +kernel
theorem dX9_readsStep_66 : decode cX9_readsStep 66 = .ok (.aload_n 0, 1) := by decide +kernel
theorem dX9_readsStep_67 : decode cX9_readsStep 67 = .ok (.iconst 0, 1) := by decide +kernel
theorem dX9_readsStep_68 : decode cX9_readsStep 68 = .ok (.aload_n 0, 1) := by decide +kernel
theorem dX9_readsStep_69 : decode cX9_readsStep 69 = .ok (.getfield 115, 3) := by decide +kernel
theorem dX9_readsStep_72 : decode cX9_readsStep 72 = .ok (.iload_n 2, 1) := by decide +kernel
theorem dX9_readsStep_73 : decode cX9_readsStep 73 = .ok (.invokestatic 414, 3) := by decide +kernel
theorem dX9_readsStep_76 : decode cX9_readsStep 76 = .ok (.ifCond .eq 7, 3) := by decide +kernel
theorem dX9_readsStep_79 : decode cX9_readsStep 79 = .ok (.iconst 3, 1) := by decide +kernel
theorem dX9_readsStep_80 : decode cX9_readsStep 80 = .ok (.goto 5, 3) := by decide +kernel
theorem dX9_readsStep_83 : decode cX9_readsStep 83 = .ok (.bipush 99, 2) := by decide +kernel
theorem dX9_readsStep_85 : decode cX9_readsStep 85 = .ok (.invokevirtual 141, 3) := by decide +kernel
theorem dX9_readsStep_88 : decode cX9_readsStep 88 = .ok (.ifCond .ne 5, 3) := by decide +kernel
theorem dX9_readsStep_91 : decode cX9_readsStep 91 = .ok (.iconst 0, 1) := by decide +kernel
theorem dX9_readsStep_92 : decode cX9_readsStep 92 = .ok (.ireturn, 1) := by decide +kernel
theorem dX9_readsStep_93 : decode cX9_readsStep 93 = .ok (.aload_n 0, 1) := by decide +kernel
theorem dX9_readsStep_94 : decode cX9_readsStep 94 = .ok (.getfield 70, 3) := by decide +kernel
theorem dX9_readsStep_97 : decode cX9_readsStep 97 = .ok (.iconst 4, 1) := by decide +kernel
theorem dX9_readsStep_98 : decode cX9_readsStep 98 = .ok (.aload_n 0, 1) := by decide +kernel
theorem dX9_readsStep_99 : decode cX9_readsStep 99 = .ok (.getfield 138, 3) := by decide +kernel
theorem dX9_readsStep_102 : decode cX9_readsStep 102 = .ok (.imul, 1) := by decide +kernel
theorem dX9_readsStep_103 : decode cX9_readsStep 103 = .ok (.iload_n 2, 1) := by decide +kernel
theorem dX9_readsStep_104 : decode cX9_readsStep 104 = .ok (.iadd, 1) := by decide +kernel
theorem dX9_readsStep_105 : decode cX9_readsStep 105 = .ok (.aload_n 0, 1) := by decide +kernel
theorem dX9_readsStep_106 : decode cX9_readsStep 106 = .ok (.getfield 135, 3) := by decide +kernel
theorem dX9_readsStep_109 : decode cX9_readsStep 109 = .ok (.iastore, 1) := by decide +kernel
theorem dX9_readsStep_110 : decode cX9_readsStep 110 = .ok (.iinc 2 1, 3) := by decide +kernel
theorem dX9_readsStep_113 : decode cX9_readsStep 113 = .ok (.goto (-52), 3) := by decide +kernel
theorem dX9_readsStep_116 : decode cX9_readsStep 116 = .ok (.aload_n 0, 1) := by decide +kernel
theorem dX9_readsStep_117 : decode cX9_readsStep 117 = .ok (.aload_n 0, 1) := by decide +kernel
theorem dX9_readsStep_118 : decode cX9_readsStep 118 = .ok (.getfield 138, 3) := by decide +kernel
theorem dX9_readsStep_121 : decode cX9_readsStep 121 = .ok (.iconst 1, 1) := by decide +kernel
theorem dX9_readsStep_122 : decode cX9_readsStep 122 = .ok (.iadd, 1) := by decide +kernel
theorem dX9_readsStep_123 : decode cX9_readsStep 123 = .ok (.putfield 138, 3) := by decide +kernel
theorem dX9_readsStep_126 : decode cX9_readsStep 126 = .ok (.iconst 1, 1) := by decide +kernel
theorem dX9_readsStep_127 : decode cX9_readsStep 127 = .ok (.ireturn, 1) := by decide +kernel
theorem dX9_does_0 : decode cX9_does 0 = .ok (.aload_n 0, 1) := by decide +kernel
theorem dX9_does_1 : decode cX9_does 1 = .ok (.getfield 66, 3) := by decide +kernel
theorem dX9_does_4 : decode cX9_does 4 = .ok (.iload_n 1, 1) := by decide +kernel
theorem dX9_does_5 : decode cX9_does 5 = .ok (.laload, 1) := by decide +kernel
theorem dX9_does_6 : decode cX9_does 6 = .ok (.lstore_n 2, 1) := by decide +kernel
theorem dX9_does_7 : decode cX9_does 7 = .ok (.aload_n 0, 1) := by decide +kernel
theorem dX9_does_8 : decode cX9_does 8 = .ok (.getfield 70, 3) := by decide +kernel
theorem dX9_does_11 : decode cX9_does 11 = .ok (.iconst 4, 1) := by decide +kernel
theorem dX9_does_12 : decode cX9_does 12 = .ok (.iload_n 1, 1) := by decide +kernel
theorem dX9_does_13 : decode cX9_does 13 = .ok (.imul, 1) := by decide +kernel
theorem dX9_does_14 : decode cX9_does 14 = .ok (.iaload, 1) := by decide +kernel
theorem dX9_does_15 : decode cX9_does 15 = .ok (.istore 4, 2) := by decide +kernel
theorem dX9_does_17 : decode cX9_does 17 = .ok (.aload_n 0, 1) := by decide +kernel
theorem dX9_does_18 : decode cX9_does 18 = .ok (.getfield 70, 3) := by decide +kernel
theorem dX9_does_21 : decode cX9_does 21 = .ok (.iconst 4, 1) := by decide +kernel
theorem dX9_does_22 : decode cX9_does 22 = .ok (.iload_n 1, 1) := by decide +kernel
theorem dX9_does_23 : decode cX9_does 23 = .ok (.imul, 1) := by decide +kernel
theorem dX9_does_24 : decode cX9_does 24 = .ok (.iconst 1, 1) := by decide +kernel
theorem dX9_does_25 : decode cX9_does 25 = .ok (.iadd, 1) := by decide +kernel
theorem dX9_does_26 : decode cX9_does 26 = .ok (.iaload, 1) := by decide +kernel
theorem dX9_does_27 : decode cX9_does 27 = .ok (.istore 5, 2) := by decide +kernel
theorem dX9_does_29 : decode cX9_does 29 = .ok (.lload_n 2, 1) := by decide +kernel
theorem dX9_does_30 : decode cX9_does 30 = .ok (.ldc2_w 388, 3) := by decide +kernel
theorem dX9_does_33 : decode cX9_does 33 = .ok (.lcmp, 1) := by decide +kernel
theorem dX9_does_34 : decode cX9_does 34 = .ok (.ifCond .ne 51, 3) := by decide +kernel
theorem dX9_does_37 : decode cX9_does 37 = .ok (.aload_n 0, 1) := by decide +kernel
theorem dX9_does_38 : decode cX9_does 38 = .ok (.iload 4, 2) := by decide +kernel
theorem dX9_does_40 : decode cX9_does 40 = .ok (.iload 5, 2) := by decide +kernel
theorem dX9_does_42 : decode cX9_does 42 = .ok (.aload_n 0, 1) := by decide +kernel
theorem dX9_does_43 : decode cX9_does 43 = .ok (.getfield 70, 3) := by decide +kernel
theorem dX9_does_46 : decode cX9_does 46 = .ok (.iconst 4, 1) := by decide +kernel
theorem dX9_does_47 : decode cX9_does 47 = .ok (.iload_n 1, 1) := by decide +kernel
theorem dX9_does_48 : decode cX9_does 48 = .ok (.imul, 1) := by decide +kernel
theorem dX9_does_49 : decode cX9_does 49 = .ok (.iconst 2, 1) := by decide +kernel
theorem dX9_does_50 : decode cX9_does 50 = .ok (.iadd, 1) := by decide +kernel
theorem dX9_does_51 : decode cX9_does 51 = .ok (.iaload, 1) := by decide +kernel
theorem dX9_does_52 : decode cX9_does 52 = .ok (.aload_n 0, 1) := by decide +kernel
theorem dX9_does_53 : decode cX9_does 53 = .ok (.getfield 70, 3) := by decide +kernel
theorem dX9_does_56 : decode cX9_does 56 = .ok (.iconst 4, 1) := by decide +kernel
theorem dX9_does_57 : decode cX9_does 57 = .ok (.iload_n 1, 1) := by decide +kernel
theorem dX9_does_58 : decode cX9_does 58 = .ok (.imul, 1) := by decide +kernel
theorem dX9_does_59 : decode cX9_does 59 = .ok (.iconst 3, 1) := by decide +kernel
theorem dX9_does_60 : decode cX9_does 60 = .ok (.iadd, 1) := by decide +kernel
theorem dX9_does_61 : decode cX9_does 61 = .ok (.iaload, 1) := by decide +kernel
theorem dX9_does_62 : decode cX9_does 62 = .ok (.invokevirtual 418, 3) := by decide +kernel
theorem dX9_does_65 : decode cX9_does 65 = .ok (.istore 6, 2) := by decide +kernel
theorem dX9_does_67 : decode cX9_does 67 = .ok (.iload 6, 2) := by decide +kernel
theorem dX9_does_69 : decode cX9_does 69 = .ok (.ifCond .ge 10, 3) := by decide +kernel
theorem dX9_does_72 : decode cX9_does 72 = .ok (.iload 6, 2) := by decide +kernel
theorem dX9_does_74 : decode cX9_does 74 = .ok (.bipush (-2), 2) := by decide +kernel
theorem dX9_does_76 : decode cX9_does 76 = .ok (.if_icmp .ne 7, 3) := by decide +kernel
theorem dX9_does_79 : decode cX9_does 79 = .ok (.iconst 1, 1) := by decide +kernel
theorem dX9_does_80 : decode cX9_does 80 = .ok (.goto 4, 3) := by decide +kernel
theorem dX9_does_83 : decode cX9_does 83 = .ok (.iconst 0, 1) := by decide +kernel
theorem dX9_does_84 : decode cX9_does 84 = .ok (.ireturn, 1) := by decide +kernel
theorem dX9_does_85 : decode cX9_does 85 = .ok (.lload_n 2, 1) := by decide +kernel
theorem dX9_does_86 : decode cX9_does 86 = .ok (.ldc2_w 396, 3) := by decide +kernel
theorem dX9_does_89 : decode cX9_does 89 = .ok (.lcmp, 1) := by decide +kernel
theorem dX9_does_90 : decode cX9_does 90 = .ok (.ifCond .ne 10, 3) := by decide +kernel
theorem dX9_does_93 : decode cX9_does 93 = .ok (.aload_n 0, 1) := by decide +kernel
theorem dX9_does_94 : decode cX9_does 94 = .ok (.iload 4, 2) := by decide +kernel
theorem dX9_does_96 : decode cX9_does 96 = .ok (.invokevirtual 421, 3) := by decide +kernel
theorem dX9_does_99 : decode cX9_does 99 = .ok (.ireturn, 1) := by decide +kernel
theorem dX9_does_100 : decode cX9_does 100 = .ok (.lload_n 2, 1) := by decide +kernel
theorem dX9_does_101 : decode cX9_does 101 = .ok (.ldc2_w 398, 3) := by decide +kernel
theorem dX9_does_104 : decode cX9_does 104 = .ok (.lcmp, 1) := by decide +kernel
theorem dX9_does_105 : decode cX9_does 105 = .ok (.ifCond .ne 18, 3) := by decide +kernel
theorem dX9_does_108 : decode cX9_does 108 = .ok (.aload_n 0, 1) := by decide +kernel
theorem dX9_does_109 : decode cX9_does 109 = .ok (.iload 4, 2) := by decide +kernel
theorem dX9_does_111 : decode cX9_does 111 = .ok (.invokevirtual 424, 3) := by decide +kernel
theorem dX9_does_114 : decode cX9_does 114 = .ok (.ifCond .lt 7, 3) := by decide +kernel
theorem dX9_does_117 : decode cX9_does 117 = .ok (.iconst 1, 1) := by decide +kernel
theorem dX9_does_118 : decode cX9_does 118 = .ok (.goto 4, 3) := by decide +kernel
theorem dX9_does_121 : decode cX9_does 121 = .ok (.iconst 0, 1) := by decide +kernel
theorem dX9_does_122 : decode cX9_does 122 = .ok (.ireturn, 1) := by decide +kernel
theorem dX9_does_123 : decode cX9_does 123 = .ok (.lload_n 2, 1) := by decide +kernel
theorem dX9_does_124 : decode cX9_does 124 = .ok (.ldc2_w 394, 3) := by decide +kernel
theorem dX9_does_127 : decode cX9_does 127 = .ok (.lcmp, 1) := by decide +kernel
theorem dX9_does_128 : decode cX9_does 128 = .ok (.ifCond .ne 16, 3) := by decide +kernel
theorem dX9_does_131 : decode cX9_does 131 = .ok (.aload_n 0, 1) := by decide +kernel
theorem dX9_does_132 : decode cX9_does 132 = .ok (.invokevirtual 290, 3) := by decide +kernel
theorem dX9_does_135 : decode cX9_does 135 = .ok (.ifCond .lt 7, 3) := by decide +kernel
theorem dX9_does_138 : decode cX9_does 138 = .ok (.iconst 1, 1) := by decide +kernel
theorem dX9_does_139 : decode cX9_does 139 = .ok (.goto 4, 3) := by decide +kernel
theorem dX9_does_142 : decode cX9_does 142 = .ok (.iconst 0, 1) := by decide +kernel
theorem dX9_does_143 : decode cX9_does 143 = .ok (.ireturn, 1) := by decide +kernel
theorem dX9_does_144 : decode cX9_does 144 = .ok (.lload_n 2, 1) := by decide +kernel
theorem dX9_does_145 : decode cX9_does 145 = .ok (.ldc2_w 390, 3) := by decide +kernel
theorem dX9_does_148 : decode cX9_does 148 = .ok (.lcmp, 1) := by decide +kernel
theorem dX9_does_149 : decode cX9_does 149 = .ok (.ifCond .ne 23, 3) := by decide +kernel
theorem dX9_does_152 : decode cX9_does 152 = .ok (.aload_n 0, 1) := by decide +kernel
theorem dX9_does_153 : decode cX9_does 153 = .ok (.iload 4, 2) := by decide +kernel
theorem dX9_does_155 : decode cX9_does 155 = .ok (.iload 5, 2) := by decide +kernel
theorem dX9_does_157 : decode cX9_does 157 = .ok (.invokevirtual 427, 3) := by decide +kernel
theorem dX9_does_160 : decode cX9_does 160 = .ok (.sipush (-1000), 3) := by decide +kernel
theorem dX9_does_163 : decode cX9_does 163 = .ok (.if_icmp .le 7, 3) := by decide +kernel
theorem dX9_does_166 : decode cX9_does 166 = .ok (.iconst 1, 1) := by decide +kernel
theorem dX9_does_167 : decode cX9_does 167 = .ok (.goto 4, 3) := by decide +kernel
theorem dX9_does_170 : decode cX9_does 170 = .ok (.iconst 0, 1) := by decide +kernel
theorem dX9_does_171 : decode cX9_does 171 = .ok (.ireturn, 1) := by decide +kernel
theorem dX9_does_172 : decode cX9_does 172 = .ok (.lload_n 2, 1) := by decide +kernel
theorem dX9_does_173 : decode cX9_does 173 = .ok (.ldc2_w 400, 3) := by decide +kernel
theorem dX9_does_176 : decode cX9_does 176 = .ok (.lcmp, 1) := by decide +kernel
theorem dX9_does_177 : decode cX9_does 177 = .ok (.ifCond .ne 18, 3) := by decide +kernel
theorem dX9_does_180 : decode cX9_does 180 = .ok (.aload_n 0, 1) := by decide +kernel
theorem dX9_does_181 : decode cX9_does 181 = .ok (.iload 4, 2) := by decide +kernel
theorem dX9_does_183 : decode cX9_does 183 = .ok (.invokevirtual 430, 3) := by decide +kernel
theorem dX9_does_186 : decode cX9_does 186 = .ok (.ifCond .lt 7, 3) := by decide +kernel
theorem dX9_does_189 : decode cX9_does 189 = .ok (.iconst 1, 1) := by decide +kernel
theorem dX9_does_190 : decode cX9_does 190 = .ok (.goto 4, 3) := by decide +kernel
theorem dX9_does_193 : decode cX9_does 193 = .ok (.iconst 0, 1) := by decide +kernel
theorem dX9_does_194 : decode cX9_does 194 = .ok (.ireturn, 1) := by decide +kernel
theorem dX9_does_195 : decode cX9_does 195 = .ok (.lload_n 2, 1) := by decide +kernel
theorem dX9_does_196 : decode cX9_does 196 = .ok (.ldc2_w 402, 3) := by decide +kernel
theorem dX9_does_199 : decode cX9_does 199 = .ok (.lcmp, 1) := by decide +kernel
theorem dX9_does_200 : decode cX9_does 200 = .ok (.ifCond .ne 10, 3) := by decide +kernel
theorem dX9_does_203 : decode cX9_does 203 = .ok (.aload_n 0, 1) := by decide +kernel
theorem dX9_does_204 : decode cX9_does 204 = .ok (.iload 4, 2) := by decide +kernel
theorem dX9_does_206 : decode cX9_does 206 = .ok (.invokevirtual 433, 3) := by decide +kernel
theorem dX9_does_209 : decode cX9_does 209 = .ok (.ireturn, 1) := by decide +kernel
theorem dX9_does_210 : decode cX9_does 210 = .ok (.lload_n 2, 1) := by decide +kernel
theorem dX9_does_211 : decode cX9_does 211 = .ok (.ldc2_w 404, 3) := by decide +kernel
theorem dX9_does_214 : decode cX9_does 214 = .ok (.lcmp, 1) := by decide +kernel
theorem dX9_does_215 : decode cX9_does 215 = .ok (.ifCond .ne 18, 3) := by decide +kernel
theorem dX9_does_218 : decode cX9_does 218 = .ok (.aload_n 0, 1) := by decide +kernel
theorem dX9_does_219 : decode cX9_does 219 = .ok (.iload 4, 2) := by decide +kernel
theorem dX9_does_221 : decode cX9_does 221 = .ok (.invokevirtual 436, 3) := by decide +kernel
theorem dX9_does_224 : decode cX9_does 224 = .ok (.ifCond .lt 7, 3) := by decide +kernel
theorem dX9_does_227 : decode cX9_does 227 = .ok (.iconst 1, 1) := by decide +kernel
theorem dX9_does_228 : decode cX9_does 228 = .ok (.goto 4, 3) := by decide +kernel
theorem dX9_does_231 : decode cX9_does 231 = .ok (.iconst 0, 1) := by decide +kernel
theorem dX9_does_232 : decode cX9_does 232 = .ok (.ireturn, 1) := by decide +kernel
theorem dX9_does_233 : decode cX9_does 233 = .ok (.lload_n 2, 1) := by decide +kernel
theorem dX9_does_234 : decode cX9_does 234 = .ok (.ldc2_w 406, 3) := by decide +kernel
theorem dX9_does_237 : decode cX9_does 237 = .ok (.lcmp, 1) := by decide +kernel
theorem dX9_does_238 : decode cX9_does 238 = .ok (.ifCond .ne 18, 3) := by decide +kernel
theorem dX9_does_241 : decode cX9_does 241 = .ok (.aload_n 0, 1) := by decide +kernel
theorem dX9_does_242 : decode cX9_does 242 = .ok (.iload 4, 2) := by decide +kernel
theorem dX9_does_244 : decode cX9_does 244 = .ok (.invokevirtual 439, 3) := by decide +kernel
theorem dX9_does_247 : decode cX9_does 247 = .ok (.ifCond .lt 7, 3) := by decide +kernel
theorem dX9_does_250 : decode cX9_does 250 = .ok (.iconst 1, 1) := by decide +kernel
theorem dX9_does_251 : decode cX9_does 251 = .ok (.goto 4, 3) := by decide +kernel
theorem dX9_does_254 : decode cX9_does 254 = .ok (.iconst 0, 1) := by decide +kernel
theorem dX9_does_255 : decode cX9_does 255 = .ok (.ireturn, 1) := by decide +kernel
theorem dX9_does_256 : decode cX9_does 256 = .ok (.lload_n 2, 1) := by decide +kernel
theorem dX9_does_257 : decode cX9_does 257 = .ok (.ldc2_w 392, 3) := by decide +kernel
theorem dX9_does_260 : decode cX9_does 260 = .ok (.lcmp, 1) := by decide +kernel
theorem dX9_does_261 : decode cX9_does 261 = .ok (.ifCond .ne 22, 3) := by decide +kernel
theorem dX9_does_264 : decode cX9_does 264 = .ok (.aload_n 0, 1) := by decide +kernel
theorem dX9_does_265 : decode cX9_does 265 = .ok (.iload 4, 2) := by decide +kernel
theorem dX9_does_267 : decode cX9_does 267 = .ok (.iload 5, 2) := by decide +kernel
theorem dX9_does_269 : decode cX9_does 269 = .ok (.invokevirtual 442, 3) := by decide +kernel
theorem dX9_does_272 : decode cX9_does 272 = .ok (.ifCond .lt 7, 3) := by decide +kernel
theorem dX9_does_275 : decode cX9_does 275 = .ok (.iconst 1, 1) := by decide +kernel
theorem dX9_does_276 : decode cX9_does 276 = .ok (.goto 21, 3) := by decide +kernel
theorem dX9_does_279 : decode cX9_does 279 = .ok (.iconst 0, 1) := by decide +kernel
theorem dX9_does_280 : decode cX9_does 280 = .ok (.goto 17, 3) := by decide +kernel
theorem dX9_does_283 : decode cX9_does 283 = .ok (.aload_n 0, 1) := by decide +kernel
theorem dX9_does_284 : decode cX9_does 284 = .ok (.iload 4, 2) := by decide +kernel
theorem dX9_does_286 : decode cX9_does 286 = .ok (.invokevirtual 445, 3) := by decide +kernel
theorem dX9_does_289 : decode cX9_does 289 = .ok (.ifCond .lt 7, 3) := by decide +kernel
theorem dX9_does_292 : decode cX9_does 292 = .ok (.iconst 1, 1) := by decide +kernel
theorem dX9_does_293 : decode cX9_does 293 = .ok (.goto 4, 3) := by decide +kernel
theorem dX9_does_296 : decode cX9_does 296 = .ok (.iconst 0, 1) := by decide +kernel
theorem dX9_does_297 : decode cX9_does 297 = .ok (.ireturn, 1) := by decide +kernel
theorem dX9_works_0 : decode cX9_works 0 = .ok (.aload_n 0, 1) := by decide +kernel
theorem dX9_works_1 : decode cX9_works 1 = .ok (.iload_n 1, 1) := by decide +kernel
theorem dX9_works_2 : decode cX9_works 2 = .ok (.invokevirtual 173, 3) := by decide +kernel
theorem dX9_works_5 : decode cX9_works 5 = .ok (.ifCond .ne 5, 3) := by decide +kernel
theorem dX9_works_8 : decode cX9_works 8 = .ok (.iconst (-1), 1) := by decide +kernel
theorem dX9_works_9 : decode cX9_works 9 = .ok (.ireturn, 1) := by decide +kernel
theorem dX9_works_10 : decode cX9_works 10 = .ok (.aload_n 0, 1) := by decide +kernel
theorem dX9_works_11 : decode cX9_works 11 = .ok (.invokevirtual 448, 3) := by decide +kernel
theorem dX9_works_14 : decode cX9_works 14 = .ok (.istore_n 2, 1) := by decide +kernel
theorem dX9_works_15 : decode cX9_works 15 = .ok (.iload_n 2, 1) := by decide +kernel
theorem dX9_works_16 : decode cX9_works 16 = .ok (.ifCond .eq 39, 3) := by decide +kernel
theorem dX9_works_19 : decode cX9_works 19 = .ok (.aload_n 0, 1) := by decide +kernel
theorem dX9_works_20 : decode cX9_works 20 = .ok (.getfield 95, 3) := by decide +kernel
theorem dX9_works_23 : decode cX9_works 23 = .ok (.aload_n 0, 1) := by decide +kernel
theorem dX9_works_24 : decode cX9_works 24 = .ok (.getfield 98, 3) := by decide +kernel
theorem dX9_works_27 : decode cX9_works 27 = .ok (.if_icmp .ge 28, 3) := by decide +kernel
theorem dX9_works_30 : decode cX9_works 30 = .ok (.aload_n 0, 1) := by decide +kernel
theorem dX9_works_31 : decode cX9_works 31 = .ok (.bipush 59, 2) := by decide +kernel
theorem dX9_works_33 : decode cX9_works 33 = .ok (.invokevirtual 125, 3) := by decide +kernel
theorem dX9_works_36 : decode cX9_works 36 = .ok (.ifCond .eq 14, 3) := by decide +kernel
theorem dX9_works_39 : decode cX9_works 39 = .ok (.aload_n 0, 1) := by decide +kernel
theorem dX9_works_40 : decode cX9_works 40 = .ok (.invokevirtual 448, 3) := by decide +kernel
theorem dX9_works_43 : decode cX9_works 43 = .ok (.ifCond .eq 7, 3) := by decide +kernel
theorem dX9_works_46 : decode cX9_works 46 = .ok (.iconst 1, 1) := by decide +kernel
theorem dX9_works_47 : decode cX9_works 47 = .ok (.goto 4, 3) := by decide +kernel
theorem dX9_works_50 : decode cX9_works 50 = .ok (.iconst 0, 1) := by decide +kernel
theorem dX9_works_51 : decode cX9_works 51 = .ok (.istore_n 2, 1) := by decide +kernel
theorem dX9_works_52 : decode cX9_works 52 = .ok (.goto (-37), 3) := by decide +kernel
theorem dX9_works_55 : decode cX9_works 55 = .ok (.iload_n 2, 1) := by decide +kernel
theorem dX9_works_56 : decode cX9_works 56 = .ok (.ifCond .ne 8, 3) := by decide +kernel
theorem dX9_works_59 : decode cX9_works 59 = .ok (.aload_n 0, 1) := by decide +kernel
theorem dX9_works_60 : decode cX9_works 60 = .ok (.getfield 101, 3) := by decide +kernel
theorem dX9_works_63 : decode cX9_works 63 = .ok (.ireturn, 1) := by decide +kernel
theorem dX9_works_64 : decode cX9_works 64 = .ok (.iconst 0, 1) := by decide +kernel
theorem dX9_works_65 : decode cX9_works 65 = .ok (.istore_n 3, 1) := by decide +kernel
theorem dX9_works_66 : decode cX9_works 66 = .ok (.iload_n 3, 1) := by decide +kernel
theorem dX9_works_67 : decode cX9_works 67 = .ok (.aload_n 0, 1) := by decide +kernel
theorem dX9_works_68 : decode cX9_works 68 = .ok (.getfield 138, 3) := by decide +kernel
theorem dX9_works_71 : decode cX9_works 71 = .ok (.if_icmp .ge 18, 3) := by decide +kernel
theorem dX9_works_74 : decode cX9_works 74 = .ok (.aload_n 0, 1) := by decide +kernel
theorem dX9_works_75 : decode cX9_works 75 = .ok (.iload_n 3, 1) := by decide +kernel
theorem dX9_works_76 : decode cX9_works 76 = .ok (.invokevirtual 451, 3) := by decide +kernel
theorem dX9_works_79 : decode cX9_works 79 = .ok (.ifCond .eq 10, 3) := by decide +kernel
theorem dX9_works_82 : decode cX9_works 82 = .ok (.iload_n 3, 1) := by decide +kernel
theorem dX9_works_83 : decode cX9_works 83 = .ok (.iconst 1, 1) := by decide +kernel
theorem dX9_works_84 : decode cX9_works 84 = .ok (.iadd, 1) := by decide +kernel
theorem dX9_works_85 : decode cX9_works 85 = .ok (.istore_n 3, 1) := by decide +kernel
theorem dX9_works_86 : decode cX9_works 86 = .ok (.goto (-20), 3) := by decide +kernel
theorem dX9_works_89 : decode cX9_works 89 = .ok (.iload_n 3, 1) := by decide +kernel
theorem dX9_works_90 : decode cX9_works 90 = .ok (.ireturn, 1) := by decide +kernel
theorem dX9_countOf_0 : decode cX9_countOf 0 = .ok (.iconst 0, 1) := by decide +kernel
theorem dX9_countOf_1 : decode cX9_countOf 1 = .ok (.istore_n 2, 1) := by decide +kernel
theorem dX9_countOf_2 : decode cX9_countOf 2 = .ok (.iconst 0, 1) := by decide +kernel
theorem dX9_countOf_3 : decode cX9_countOf 3 = .ok (.istore_n 3, 1) := by decide +kernel
theorem dX9_countOf_4 : decode cX9_countOf 4 = .ok (.iload_n 3, 1) := by decide +kernel
theorem dX9_countOf_5 : decode cX9_countOf 5 = .ok (.aload_n 0, 1) := by decide +kernel
theorem dX9_countOf_6 : decode cX9_countOf 6 = .ok (.getfield 7, 3) := by decide +kernel
theorem dX9_countOf_9 : decode cX9_countOf 9 = .ok (.bipush 7, 2) := by decide +kernel
theorem dX9_countOf_11 : decode cX9_countOf 11 = .ok (.iaload, 1) := by decide +kernel
theorem dX9_countOf_12 : decode cX9_countOf 12 = .ok (.if_icmp .ge 23, 3) := by decide +kernel
theorem dX9_countOf_15 : decode cX9_countOf 15 = .ok (.aload_n 0, 1) := by decide +kernel
theorem dX9_countOf_16 : decode cX9_countOf 16 = .ok (.iload_n 3, 1) := by decide +kernel
theorem dX9_countOf_17 : decode cX9_countOf 17 = .ok (.iconst 3, 1) := by decide +kernel
theorem dX9_countOf_18 : decode cX9_countOf 18 = .ok (.invokevirtual 79, 3) := by decide +kernel
theorem dX9_countOf_21 : decode cX9_countOf 21 = .ok (.iload_n 1, 1) := by decide +kernel
theorem dX9_countOf_22 : decode cX9_countOf 22 = .ok (.if_icmp .ne 7, 3) := by decide +kernel
theorem dX9_countOf_25 : decode cX9_countOf 25 = .ok (.iload_n 2, 1) := by decide +kernel
theorem dX9_countOf_26 : decode cX9_countOf 26 = .ok (.iconst 1, 1) := by decide +kernel
theorem dX9_countOf_27 : decode cX9_countOf 27 = .ok (.iadd, 1) := by decide +kernel
theorem dX9_countOf_28 : decode cX9_countOf 28 = .ok (.istore_n 2, 1) := by decide +kernel
theorem dX9_countOf_29 : decode cX9_countOf 29 = .ok (.iinc 3 1, 3) := by decide +kernel
theorem dX9_countOf_32 : decode cX9_countOf 32 = .ok (.goto (-28), 3) := by decide +kernel
theorem dX9_countOf_35 : decode cX9_countOf 35 = .ok (.iload_n 2, 1) := by decide +kernel
theorem dX9_countOf_36 : decode cX9_countOf 36 = .ok (.ireturn, 1) := by decide +kernel
theorem dX9_usedOn_0 : decode cX9_usedOn 0 = .ok (.iconst 0, 1) := by decide +kernel
theorem dX9_usedOn_1 : decode cX9_usedOn 1 = .ok (.istore_n 2, 1) := by decide +kernel
theorem dX9_usedOn_2 : decode cX9_usedOn 2 = .ok (.iconst 0, 1) := by decide +kernel
theorem dX9_usedOn_3 : decode cX9_usedOn 3 = .ok (.istore_n 3, 1) := by decide +kernel
theorem dX9_usedOn_4 : decode cX9_usedOn 4 = .ok (.iload_n 3, 1) := by decide +kernel
theorem dX9_usedOn_5 : decode cX9_usedOn 5 = .ok (.aload_n 0, 1) := by decide +kernel
theorem dX9_usedOn_6 : decode cX9_usedOn 6 = .ok (.getfield 7, 3) := by decide +kernel
theorem dX9_usedOn_9 : decode cX9_usedOn 9 = .ok (.bipush 7, 2) := by decide +kernel
theorem dX9_usedOn_11 : decode cX9_usedOn 11 = .ok (.iaload, 1) := by decide +kernel
theorem dX9_usedOn_12 : decode cX9_usedOn 12 = .ok (.if_icmp .ge 40, 3) := by decide +kernel
theorem dX9_usedOn_15 : decode cX9_usedOn 15 = .ok (.aload_n 0, 1) := by decide +kernel
theorem dX9_usedOn_16 : decode cX9_usedOn 16 = .ok (.iload_n 3, 1) := by decide +kernel
theorem dX9_usedOn_17 : decode cX9_usedOn 17 = .ok (.invokevirtual 219, 3) := by decide +kernel
theorem dX9_usedOn_20 : decode cX9_usedOn 20 = .ok (.ifCond .eq 26, 3) := by decide +kernel
theorem dX9_usedOn_23 : decode cX9_usedOn 23 = .ok (.aload_n 0, 1) := by decide +kernel
theorem dX9_usedOn_24 : decode cX9_usedOn 24 = .ok (.iload_n 3, 1) := by decide +kernel
theorem dX9_usedOn_25 : decode cX9_usedOn 25 = .ok (.bipush 6, 2) := by decide +kernel
theorem dX9_usedOn_27 : decode cX9_usedOn 27 = .ok (.invokevirtual 79, 3) := by decide +kernel
theorem dX9_usedOn_30 : decode cX9_usedOn 30 = .ok (.iload_n 1, 1) := by decide +kernel
theorem dX9_usedOn_31 : decode cX9_usedOn 31 = .ok (.invokestatic 179, 3) := by decide +kernel
theorem dX9_usedOn_34 : decode cX9_usedOn 34 = .ok (.ifCond .eq 12, 3) := by decide +kernel
theorem dX9_usedOn_37 : decode cX9_usedOn 37 = .ok (.iload_n 2, 1) := by decide +kernel
theorem dX9_usedOn_38 : decode cX9_usedOn 38 = .ok (.aload_n 0, 1) := by decide +kernel
theorem dX9_usedOn_39 : decode cX9_usedOn 39 = .ok (.iload_n 3, 1) := by decide +kernel
theorem dX9_usedOn_40 : decode cX9_usedOn 40 = .ok (.iconst 5, 1) := by decide +kernel
theorem dX9_usedOn_41 : decode cX9_usedOn 41 = .ok (.invokevirtual 79, 3) := by decide +kernel
theorem dX9_usedOn_44 : decode cX9_usedOn 44 = .ok (.iadd, 1) := by decide +kernel
theorem dX9_usedOn_45 : decode cX9_usedOn 45 = .ok (.istore_n 2, 1) := by decide +kernel
theorem dX9_usedOn_46 : decode cX9_usedOn 46 = .ok (.iinc 3 1, 3) := by decide +kernel
theorem dX9_usedOn_49 : decode cX9_usedOn 49 = .ok (.goto (-45), 3) := by decide +kernel
theorem dX9_usedOn_52 : decode cX9_usedOn 52 = .ok (.iload_n 2, 1) := by decide +kernel
theorem dX9_usedOn_53 : decode cX9_usedOn 53 = .ok (.ireturn, 1) := by decide +kernel
theorem dX9_usedOnAll_0 : decode cX9_usedOnAll 0 = .ok (.iconst 0, 1) := by decide +kernel
theorem dX9_usedOnAll_1 : decode cX9_usedOnAll 1 = .ok (.istore_n 1, 1) := by decide +kernel
theorem dX9_usedOnAll_2 : decode cX9_usedOnAll 2 = .ok (.iconst 0, 1) := by decide +kernel
theorem dX9_usedOnAll_3 : decode cX9_usedOnAll 3 = .ok (.istore_n 2, 1) := by decide +kernel
theorem dX9_usedOnAll_4 : decode cX9_usedOnAll 4 = .ok (.iload_n 2, 1) := by decide +kernel
theorem dX9_usedOnAll_5 : decode cX9_usedOnAll 5 = .ok (.aload_n 0, 1) := by decide +kernel
theorem dX9_usedOnAll_6 : decode cX9_usedOnAll 6 = .ok (.getfield 7, 3) := by decide +kernel
theorem dX9_usedOnAll_9 : decode cX9_usedOnAll 9 = .ok (.iconst 3, 1) := by decide +kernel
theorem dX9_usedOnAll_10 : decode cX9_usedOnAll 10 = .ok (.iaload, 1) := by decide +kernel
theorem dX9_usedOnAll_11 : decode cX9_usedOnAll 11 = .ok (.if_icmp .ge 17, 3) := by decide +kernel
theorem dX9_usedOnAll_14 : decode cX9_usedOnAll 14 = .ok (.iload_n 1, 1) := by decide +kernel
theorem dX9_usedOnAll_15 : decode cX9_usedOnAll 15 = .ok (.aload_n 0, 1) := by decide +kernel
theorem dX9_usedOnAll_16 : decode cX9_usedOnAll 16 = .ok (.iload_n 2, 1) := by decide +kernel
theorem dX9_usedOnAll_17 : decode cX9_usedOnAll 17 = .ok (.invokevirtual 454, 3) := by decide +kernel
theorem dX9_usedOnAll_20 : decode cX9_usedOnAll 20 = .ok (.iadd, 1) := by decide +kernel
theorem dX9_usedOnAll_21 : decode cX9_usedOnAll 21 = .ok (.istore_n 1, 1) := by decide +kernel
theorem dX9_usedOnAll_22 : decode cX9_usedOnAll 22 = .ok (.iinc 2 1, 3) := by decide +kernel
theorem dX9_usedOnAll_25 : decode cX9_usedOnAll 25 = .ok (.goto (-21), 3) := by decide +kernel
theorem dX9_usedOnAll_28 : decode cX9_usedOnAll 28 = .ok (.iload_n 1, 1) := by decide +kernel
theorem dX9_usedOnAll_29 : decode cX9_usedOnAll 29 = .ok (.ireturn, 1) := by decide +kernel
theorem dX9_gridIs_0 : decode cX9_gridIs 0 = .ok (.iload_n 1, 1) := by decide +kernel
theorem dX9_gridIs_1 : decode cX9_gridIs 1 = .ok (.bipush 20, 2) := by decide +kernel
theorem dX9_gridIs_3 : decode cX9_gridIs 3 = .ok (.bipush 23, 2) := by decide +kernel
theorem dX9_gridIs_5 : decode cX9_gridIs 5 = .ok (.invokestatic 83, 3) := by decide +kernel
theorem dX9_gridIs_8 : decode cX9_gridIs 8 = .ok (.ifCond .eq 16, 3) := by decide +kernel
theorem dX9_gridIs_11 : decode cX9_gridIs 11 = .ok (.aload_n 0, 1) := by decide +kernel
theorem dX9_gridIs_12 : decode cX9_gridIs 12 = .ok (.getfield 7, 3) := by decide +kernel
theorem dX9_gridIs_15 : decode cX9_gridIs 15 = .ok (.bipush 8, 2) := by decide +kernel
theorem dX9_gridIs_17 : decode cX9_gridIs 17 = .ok (.iload_n 1, 1) := by decide +kernel
theorem dX9_gridIs_18 : decode cX9_gridIs 18 = .ok (.iadd, 1) := by decide +kernel
theorem dX9_gridIs_19 : decode cX9_gridIs 19 = .ok (.bipush 20, 2) := by decide +kernel
theorem dX9_gridIs_21 : decode cX9_gridIs 21 = .ok (.isub, 1) := by decide +kernel
theorem dX9_gridIs_22 : decode cX9_gridIs 22 = .ok (.iaload, 1) := by decide +kernel
theorem dX9_gridIs_23 : decode cX9_gridIs 23 = .ok (.ireturn, 1) := by decide +kernel
theorem dX9_gridIs_24 : decode cX9_gridIs 24 = .ok (.iload_n 1, 1) := by decide +kernel
theorem dX9_gridIs_25 : decode cX9_gridIs 25 = .ok (.tableswitch 149 0 13 #[71, 78, 85, 92, 99, 107, 115, 115, 115, 115, 124, 129, 134, 141], 71) := by decide +kernel
theorem dX9_gridIs_96 : decode cX9_gridIs 96 = .ok (.aload_n 0, 1) := by decide +kernel
theorem dX9_gridIs_97 : decode cX9_gridIs 97 = .ok (.getfield 7, 3) := by decide +kernel
theorem dX9_gridIs_100 : decode cX9_gridIs 100 = .ok (.iconst 0, 1) := by decide +kernel
theorem dX9_gridIs_101 : decode cX9_gridIs 101 = .ok (.iaload, 1) := by decide +kernel
theorem dX9_gridIs_102 : decode cX9_gridIs 102 = .ok (.ireturn, 1) := by decide +kernel
theorem dX9_gridIs_103 : decode cX9_gridIs 103 = .ok (.aload_n 0, 1) := by decide +kernel
theorem dX9_gridIs_104 : decode cX9_gridIs 104 = .ok (.getfield 7, 3) := by decide +kernel
theorem dX9_gridIs_107 : decode cX9_gridIs 107 = .ok (.iconst 1, 1) := by decide +kernel
theorem dX9_gridIs_108 : decode cX9_gridIs 108 = .ok (.iaload, 1) := by decide +kernel
theorem dX9_gridIs_109 : decode cX9_gridIs 109 = .ok (.ireturn, 1) := by decide +kernel
theorem dX9_gridIs_110 : decode cX9_gridIs 110 = .ok (.aload_n 0, 1) := by decide +kernel
theorem dX9_gridIs_111 : decode cX9_gridIs 111 = .ok (.getfield 7, 3) := by decide +kernel
theorem dX9_gridIs_114 : decode cX9_gridIs 114 = .ok (.iconst 2, 1) := by decide +kernel
theorem dX9_gridIs_115 : decode cX9_gridIs 115 = .ok (.iaload, 1) := by decide +kernel
theorem dX9_gridIs_116 : decode cX9_gridIs 116 = .ok (.ireturn, 1) := by decide +kernel
theorem dX9_gridIs_117 : decode cX9_gridIs 117 = .ok (.aload_n 0, 1) := by decide +kernel
theorem dX9_gridIs_118 : decode cX9_gridIs 118 = .ok (.getfield 7, 3) := by decide +kernel
theorem dX9_gridIs_121 : decode cX9_gridIs 121 = .ok (.iconst 3, 1) := by decide +kernel
theorem dX9_gridIs_122 : decode cX9_gridIs 122 = .ok (.iaload, 1) := by decide +kernel
theorem dX9_gridIs_123 : decode cX9_gridIs 123 = .ok (.ireturn, 1) := by decide +kernel
theorem dX9_gridIs_124 : decode cX9_gridIs 124 = .ok (.aload_n 0, 1) := by decide +kernel
theorem dX9_gridIs_125 : decode cX9_gridIs 125 = .ok (.getfield 7, 3) := by decide +kernel
theorem dX9_gridIs_128 : decode cX9_gridIs 128 = .ok (.bipush 12, 2) := by decide +kernel
theorem dX9_gridIs_130 : decode cX9_gridIs 130 = .ok (.iaload, 1) := by decide +kernel
theorem dX9_gridIs_131 : decode cX9_gridIs 131 = .ok (.ireturn, 1) := by decide +kernel
theorem dX9_gridIs_132 : decode cX9_gridIs 132 = .ok (.aload_n 0, 1) := by decide +kernel
theorem dX9_gridIs_133 : decode cX9_gridIs 133 = .ok (.getfield 7, 3) := by decide +kernel
theorem dX9_gridIs_136 : decode cX9_gridIs 136 = .ok (.bipush 7, 2) := by decide +kernel
theorem dX9_gridIs_138 : decode cX9_gridIs 138 = .ok (.iaload, 1) := by decide +kernel
theorem dX9_gridIs_139 : decode cX9_gridIs 139 = .ok (.ireturn, 1) := by decide +kernel
theorem dX9_gridIs_140 : decode cX9_gridIs 140 = .ok (.aload_n 0, 1) := by decide +kernel
theorem dX9_gridIs_141 : decode cX9_gridIs 141 = .ok (.iload_n 1, 1) := by decide +kernel
theorem dX9_gridIs_142 : decode cX9_gridIs 142 = .ok (.bipush 6, 2) := by decide +kernel
theorem dX9_gridIs_144 : decode cX9_gridIs 144 = .ok (.isub, 1) := by decide +kernel
theorem dX9_gridIs_145 : decode cX9_gridIs 145 = .ok (.invokevirtual 457, 3) := by decide +kernel
theorem dX9_gridIs_148 : decode cX9_gridIs 148 = .ok (.ireturn, 1) := by decide +kernel
theorem dX9_gridIs_149 : decode cX9_gridIs 149 = .ok (.aload_n 0, 1) := by decide +kernel
theorem dX9_gridIs_150 : decode cX9_gridIs 150 = .ok (.invokevirtual 317, 3) := by decide +kernel
theorem dX9_gridIs_153 : decode cX9_gridIs 153 = .ok (.ireturn, 1) := by decide +kernel
theorem dX9_gridIs_154 : decode cX9_gridIs 154 = .ok (.aload_n 0, 1) := by decide +kernel
theorem dX9_gridIs_155 : decode cX9_gridIs 155 = .ok (.invokevirtual 460, 3) := by decide +kernel
theorem dX9_gridIs_158 : decode cX9_gridIs 158 = .ok (.ireturn, 1) := by decide +kernel
theorem dX9_gridIs_159 : decode cX9_gridIs 159 = .ok (.aload_n 0, 1) := by decide +kernel
theorem dX9_gridIs_160 : decode cX9_gridIs 160 = .ok (.getfield 7, 3) := by decide +kernel
theorem dX9_gridIs_163 : decode cX9_gridIs 163 = .ok (.iconst 5, 1) := by decide +kernel
theorem dX9_gridIs_164 : decode cX9_gridIs 164 = .ok (.iaload, 1) := by decide +kernel
theorem dX9_gridIs_165 : decode cX9_gridIs 165 = .ok (.ireturn, 1) := by decide +kernel
theorem dX9_gridIs_166 : decode cX9_gridIs 166 = .ok (.aload_n 0, 1) := by decide +kernel
theorem dX9_gridIs_167 : decode cX9_gridIs 167 = .ok (.getfield 7, 3) := by decide +kernel
theorem dX9_gridIs_170 : decode cX9_gridIs 170 = .ok (.bipush 6, 2) := by decide +kernel
theorem dX9_gridIs_172 : decode cX9_gridIs 172 = .ok (.iaload, 1) := by decide +kernel
theorem dX9_gridIs_173 : decode cX9_gridIs 173 = .ok (.ireturn, 1) := by decide +kernel
theorem dX9_gridIs_174 : decode cX9_gridIs 174 = .ok (.bipush (-2), 2) := by decide +kernel
theorem dX9_gridIs_176 : decode cX9_gridIs 176 = .ok (.ireturn, 1) := by decide +kernel
theorem dX9_findsRows_0 : decode cX9_findsRows 0 = .ok (.aload_n 0, 1) := by decide +kernel
theorem dX9_findsRows_1 : decode cX9_findsRows 1 = .ok (.iconst 0, 1) := by decide +kernel
theorem dX9_findsRows_2 : decode cX9_findsRows 2 = .ok (.putfield 463, 3) := by decide +kernel
theorem dX9_findsRows_5 : decode cX9_findsRows 5 = .ok (.aload_n 0, 1) := by decide +kernel
theorem dX9_findsRows_6 : decode cX9_findsRows 6 = .ok (.iconst 0, 1) := by decide +kernel
theorem dX9_findsRows_7 : decode cX9_findsRows 7 = .ok (.putfield 466, 3) := by decide +kernel
theorem dX9_findsRows_10 : decode cX9_findsRows 10 = .ok (.aload_n 0, 1) := by decide +kernel
theorem dX9_findsRows_11 : decode cX9_findsRows 11 = .ok (.iconst 0, 1) := by decide +kernel
theorem dX9_findsRows_12 : decode cX9_findsRows 12 = .ok (.putfield 469, 3) := by decide +kernel
theorem dX9_findsRows_15 : decode cX9_findsRows 15 = .ok (.iconst 0, 1) := by decide +kernel
theorem dX9_findsRows_16 : decode cX9_findsRows 16 = .ok (.istore_n 3, 1) := by decide +kernel
theorem dX9_findsRows_17 : decode cX9_findsRows 17 = .ok (.iconst 0, 1) := by decide +kernel
theorem dX9_findsRows_18 : decode cX9_findsRows 18 = .ok (.istore 4, 2) := by decide +kernel
theorem dX9_findsRows_20 : decode cX9_findsRows 20 = .ok (.iload 4, 2) := by decide +kernel
theorem dX9_findsRows_22 : decode cX9_findsRows 22 = .ok (.aload_n 0, 1) := by decide +kernel
theorem dX9_findsRows_23 : decode cX9_findsRows 23 = .ok (.getfield 7, 3) := by decide +kernel
theorem dX9_findsRows_26 : decode cX9_findsRows 26 = .ok (.iconst 1, 1) := by decide +kernel
theorem dX9_findsRows_27 : decode cX9_findsRows 27 = .ok (.iaload, 1) := by decide +kernel
theorem dX9_findsRows_28 : decode cX9_findsRows 28 = .ok (.if_icmp .gt 74, 3) := by decide +kernel
theorem dX9_findsRows_31 : decode cX9_findsRows 31 = .ok (.aload_n 0, 1) := by decide +kernel
theorem dX9_findsRows_32 : decode cX9_findsRows 32 = .ok (.iconst 1, 1) := by decide +kernel
theorem dX9_findsRows_33 : decode cX9_findsRows 33 = .ok (.iload_n 1, 1) := by decide +kernel
theorem dX9_findsRows_34 : decode cX9_findsRows 34 = .ok (.ishl, 1) := by decide +kernel
theorem dX9_findsRows_35 : decode cX9_findsRows 35 = .ok (.iload 4, 2) := by decide +kernel
theorem dX9_findsRows_37 : decode cX9_findsRows 37 = .ok (.invokevirtual 230, 3) := by decide +kernel
theorem dX9_findsRows_40 : decode cX9_findsRows 40 = .ok (.ifCond .eq 10, 3) := by decide +kernel
theorem dX9_findsRows_43 : decode cX9_findsRows 43 = .ok (.iload_n 3, 1) := by decide +kernel
theorem dX9_findsRows_44 : decode cX9_findsRows 44 = .ok (.iconst 1, 1) := by decide +kernel
theorem dX9_findsRows_45 : decode cX9_findsRows 45 = .ok (.iadd, 1) := by decide +kernel
theorem dX9_findsRows_46 : decode cX9_findsRows 46 = .ok (.istore_n 3, 1) := by decide +kernel
theorem dX9_findsRows_47 : decode cX9_findsRows 47 = .ok (.goto 49, 3) := by decide +kernel
theorem dX9_findsRows_50 : decode cX9_findsRows 50 = .ok (.aload_n 0, 1) := by decide +kernel
theorem dX9_findsRows_51 : decode cX9_findsRows 51 = .ok (.aload_n 0, 1) := by decide +kernel
theorem dX9_findsRows_52 : decode cX9_findsRows 52 = .ok (.getfield 463, 3) := by decide +kernel
theorem dX9_findsRows_55 : decode cX9_findsRows 55 = .ok (.iload_n 3, 1) := by decide +kernel
theorem dX9_findsRows_56 : decode cX9_findsRows 56 = .ok (.invokestatic 305, 3) := by decide +kernel
theorem dX9_findsRows_59 : decode cX9_findsRows 59 = .ok (.putfield 463, 3) := by decide +kernel
theorem dX9_findsRows_62 : decode cX9_findsRows 62 = .ok (.iload_n 3, 1) := by decide +kernel
theorem dX9_findsRows_63 : decode cX9_findsRows 63 = .ok (.ifCond .le 13, 3) := by decide +kernel
theorem dX9_findsRows_66 : decode cX9_findsRows 66 = .ok (.aload_n 0, 1) := by decide +kernel
theorem dX9_findsRows_67 : decode cX9_findsRows 67 = .ok (.aload_n 0, 1) := by decide +kernel
theorem dX9_findsRows_68 : decode cX9_findsRows 68 = .ok (.getfield 466, 3) := by decide +kernel
theorem dX9_findsRows_71 : decode cX9_findsRows 71 = .ok (.iconst 1, 1) := by decide +kernel
theorem dX9_findsRows_72 : decode cX9_findsRows 72 = .ok (.iadd, 1) := by decide +kernel
theorem dX9_findsRows_73 : decode cX9_findsRows 73 = .ok (.putfield 466, 3) := by decide +kernel
theorem dX9_findsRows_76 : decode cX9_findsRows 76 = .ok (.aload_n 0, 1) := by decide +kernel
theorem dX9_findsRows_77 : decode cX9_findsRows 77 = .ok (.aload_n 0, 1) := by decide +kernel
theorem dX9_findsRows_78 : decode cX9_findsRows 78 = .ok (.getfield 469, 3) := by decide +kernel
theorem dX9_findsRows_81 : decode cX9_findsRows 81 = .ok (.iconst 0, 1) := by decide +kernel
theorem dX9_findsRows_82 : decode cX9_findsRows 82 = .ok (.iload_n 3, 1) := by decide +kernel
theorem dX9_findsRows_83 : decode cX9_findsRows 83 = .ok (.iload_n 2, 1) := by decide +kernel
theorem dX9_findsRows_84 : decode cX9_findsRows 84 = .ok (.isub, 1) := by decide +kernel
theorem dX9_findsRows_85 : decode cX9_findsRows 85 = .ok (.iconst 1, 1) := by decide +kernel
theorem dX9_findsRows_86 : decode cX9_findsRows 86 = .ok (.iadd, 1) := by decide +kernel
theorem dX9_findsRows_87 : decode cX9_findsRows 87 = .ok (.invokestatic 305, 3) := by decide +kernel
theorem dX9_findsRows_90 : decode cX9_findsRows 90 = .ok (.iadd, 1) := by decide +kernel
theorem dX9_findsRows_91 : decode cX9_findsRows 91 = .ok (.putfield 469, 3) := by decide +kernel
theorem dX9_findsRows_94 : decode cX9_findsRows 94 = .ok (.iconst 0, 1) := by decide +kernel
theorem dX9_findsRows_95 : decode cX9_findsRows 95 = .ok (.istore_n 3, 1) := by decide +kernel
theorem dX9_findsRows_96 : decode cX9_findsRows 96 = .ok (.iinc 4 1, 3) := by decide +kernel
theorem dX9_findsRows_99 : decode cX9_findsRows 99 = .ok (.goto (-79), 3) := by decide +kernel
theorem dX9_findsRows_102 : decode cX9_findsRows 102 = .ok (.return_, 1) := by decide +kernel
theorem dX9_litOn_0 : decode cX9_litOn 0 = .ok (.iconst 0, 1) := by decide +kernel
theorem dX9_litOn_1 : decode cX9_litOn 1 = .ok (.istore_n 2, 1) := by decide +kernel
theorem dX9_litOn_2 : decode cX9_litOn 2 = .ok (.iconst 0, 1) := by decide +kernel
theorem dX9_litOn_3 : decode cX9_litOn 3 = .ok (.istore_n 3, 1) := by decide +kernel
theorem dX9_litOn_4 : decode cX9_litOn 4 = .ok (.iload_n 3, 1) := by decide +kernel
theorem dX9_litOn_5 : decode cX9_litOn 5 = .ok (.aload_n 0, 1) := by decide +kernel
theorem dX9_litOn_6 : decode cX9_litOn 6 = .ok (.getfield 7, 3) := by decide +kernel
theorem dX9_litOn_9 : decode cX9_litOn 9 = .ok (.bipush 7, 2) := by decide +kernel
theorem dX9_litOn_11 : decode cX9_litOn 11 = .ok (.iaload, 1) := by decide +kernel
theorem dX9_litOn_12 : decode cX9_litOn 12 = .ok (.if_icmp .ge 35, 3) := by decide +kernel
theorem dX9_litOn_15 : decode cX9_litOn 15 = .ok (.aload_n 0, 1) := by decide +kernel
theorem dX9_litOn_16 : decode cX9_litOn 16 = .ok (.iload_n 3, 1) := by decide +kernel
theorem dX9_litOn_17 : decode cX9_litOn 17 = .ok (.invokevirtual 219, 3) := by decide +kernel
theorem dX9_litOn_20 : decode cX9_litOn 20 = .ok (.ifCond .eq 21, 3) := by decide +kernel
theorem dX9_litOn_23 : decode cX9_litOn 23 = .ok (.aload_n 0, 1) := by decide +kernel
theorem dX9_litOn_24 : decode cX9_litOn 24 = .ok (.iload_n 3, 1) := by decide +kernel
theorem dX9_litOn_25 : decode cX9_litOn 25 = .ok (.bipush 6, 2) := by decide +kernel
theorem dX9_litOn_27 : decode cX9_litOn 27 = .ok (.invokevirtual 79, 3) := by decide +kernel
theorem dX9_litOn_30 : decode cX9_litOn 30 = .ok (.iload_n 1, 1) := by decide +kernel
theorem dX9_litOn_31 : decode cX9_litOn 31 = .ok (.invokestatic 179, 3) := by decide +kernel
theorem dX9_litOn_34 : decode cX9_litOn 34 = .ok (.ifCond .eq 7, 3) := by decide +kernel
theorem dX9_litOn_37 : decode cX9_litOn 37 = .ok (.iload_n 2, 1) := by decide +kernel
theorem dX9_litOn_38 : decode cX9_litOn 38 = .ok (.iconst 1, 1) := by decide +kernel
theorem dX9_litOn_39 : decode cX9_litOn 39 = .ok (.iadd, 1) := by decide +kernel
theorem dX9_litOn_40 : decode cX9_litOn 40 = .ok (.istore_n 2, 1) := by decide +kernel
theorem dX9_litOn_41 : decode cX9_litOn 41 = .ok (.iinc 3 1, 3) := by decide +kernel
theorem dX9_litOn_44 : decode cX9_litOn 44 = .ok (.goto (-40), 3) := by decide +kernel
theorem dX9_litOn_47 : decode cX9_litOn 47 = .ok (.iload_n 2, 1) := by decide +kernel
theorem dX9_litOn_48 : decode cX9_litOn 48 = .ok (.ireturn, 1) := by decide +kernel
theorem dX9_tornOf_0 : decode cX9_tornOf 0 = .ok (.aload_n 0, 1) := by decide +kernel
theorem dX9_tornOf_1 : decode cX9_tornOf 1 = .ok (.getfield 7, 3) := by decide +kernel
theorem dX9_tornOf_4 : decode cX9_tornOf 4 = .ok (.iconst 1, 1) := by decide +kernel
theorem dX9_tornOf_5 : decode cX9_tornOf 5 = .ok (.iaload, 1) := by decide +kernel
theorem dX9_tornOf_6 : decode cX9_tornOf 6 = .ok (.aload_n 0, 1) := by decide +kernel
theorem dX9_tornOf_7 : decode cX9_tornOf 7 = .ok (.iload_n 1, 1) := by decide +kernel
theorem dX9_tornOf_8 : decode cX9_tornOf 8 = .ok (.invokevirtual 454, 3) := by decide +kernel
theorem dX9_tornOf_11 : decode cX9_tornOf 11 = .ok (.isub, 1) := by decide +kernel
theorem dX9_tornOf_12 : decode cX9_tornOf 12 = .ok (.istore_n 2, 1) := by decide +kernel
theorem dX9_tornOf_13 : decode cX9_tornOf 13 = .ok (.iload_n 2, 1) := by decide +kernel
theorem dX9_tornOf_14 : decode cX9_tornOf 14 = .ok (.ifCond .ne 7, 3) := by decide +kernel
theorem dX9_tornOf_17 : decode cX9_tornOf 17 = .ok (.iconst 0, 1) := by decide +kernel
theorem dX9_tornOf_18 : decode cX9_tornOf 18 = .ok (.goto 15, 3) := by decide +kernel
theorem dX9_tornOf_21 : decode cX9_tornOf 21 = .ok (.iload_n 2, 1) := by decide +kernel
theorem dX9_tornOf_22 : decode cX9_tornOf 22 = .ok (.aload_n 0, 1) := by decide +kernel
theorem dX9_tornOf_23 : decode cX9_tornOf 23 = .ok (.getfield 463, 3) := by decide +kernel
theorem dX9_tornOf_26 : decode cX9_tornOf 26 = .ok (.isub, 1) := by decide +kernel
theorem dX9_tornOf_27 : decode cX9_tornOf 27 = .ok (.sipush 10000, 3) := by decide +kernel
theorem dX9_tornOf_30 : decode cX9_tornOf 30 = .ok (.imul, 1) := by decide +kernel
theorem dX9_tornOf_31 : decode cX9_tornOf 31 = .ok (.iload_n 2, 1) := by decide +kernel
theorem dX9_tornOf_32 : decode cX9_tornOf 32 = .ok (.idiv, 1) := by decide +kernel
theorem dX9_tornOf_33 : decode cX9_tornOf 33 = .ok (.ireturn, 1) := by decide +kernel
theorem dX9_linkIs_0 : decode cX9_linkIs 0 = .ok (.aload_n 0, 1) := by decide +kernel
theorem dX9_linkIs_1 : decode cX9_linkIs 1 = .ok (.iload_n 1, 1) := by decide +kernel
theorem dX9_linkIs_2 : decode cX9_linkIs 2 = .ok (.invokevirtual 296, 3) := by decide +kernel
theorem dX9_linkIs_5 : decode cX9_linkIs 5 = .ok (.ifCond .eq 24, 3) := by decide +kernel
theorem dX9_linkIs_8 : decode cX9_linkIs 8 = .ok (.iload_n 2, 1) := by decide +kernel
theorem dX9_linkIs_9 : decode cX9_linkIs 9 = .ok (.iconst 0, 1) := by decide +kernel
theorem dX9_linkIs_10 : decode cX9_linkIs 10 = .ok (.bipush 9, 2) := by decide +kernel
theorem dX9_linkIs_12 : decode cX9_linkIs 12 = .ok (.invokestatic 83, 3) := by decide +kernel
theorem dX9_linkIs_15 : decode cX9_linkIs 15 = .ok (.ifCond .ne 16, 3) := by decide +kernel
theorem dX9_linkIs_18 : decode cX9_linkIs 18 = .ok (.iload_n 2, 1) := by decide +kernel
theorem dX9_linkIs_19 : decode cX9_linkIs 19 = .ok (.bipush 21, 2) := by decide +kernel
theorem dX9_linkIs_21 : decode cX9_linkIs 21 = .ok (.bipush 84, 2) := by decide +kernel
theorem dX9_linkIs_23 : decode cX9_linkIs 23 = .ok (.invokestatic 83, 3) := by decide +kernel
theorem dX9_linkIs_26 : decode cX9_linkIs 26 = .ok (.ifCond .ne 5, 3) := by decide +kernel
theorem dX9_linkIs_29 : decode cX9_linkIs 29 = .ok (.iconst (-1), 1) := by decide +kernel
theorem dX9_linkIs_30 : decode cX9_linkIs 30 = .ok (.ireturn, 1) := by decide +kernel
theorem dX9_linkIs_31 : decode cX9_linkIs 31 = .ok (.aload_n 0, 1) := by decide +kernel
theorem dX9_linkIs_32 : decode cX9_linkIs 32 = .ok (.iload_n 1, 1) := by decide +kernel
theorem dX9_linkIs_33 : decode cX9_linkIs 33 = .ok (.iconst 1, 1) := by decide +kernel
theorem dX9_linkIs_34 : decode cX9_linkIs 34 = .ok (.iload_n 2, 1) := by decide +kernel
theorem dX9_linkIs_35 : decode cX9_linkIs 35 = .ok (.bipush 20, 2) := by decide +kernel
theorem dX9_linkIs_37 : decode cX9_linkIs 37 = .ok (.isub, 1) := by decide +kernel
theorem dX9_linkIs_38 : decode cX9_linkIs 38 = .ok (.invokestatic 305, 3) := by decide +kernel
theorem dX9_linkIs_41 : decode cX9_linkIs 41 = .ok (.invokevirtual 472, 3) := by decide +kernel
theorem dX9_linkIs_44 : decode cX9_linkIs 44 = .ok (.iload_n 2, 1) := by decide +kernel
theorem dX9_linkIs_45 : decode cX9_linkIs 45 = .ok (.bipush 20, 2) := by decide +kernel
theorem dX9_linkIs_47 : decode cX9_linkIs 47 = .ok (.if_icmp .le 8, 3) := by decide +kernel
theorem dX9_linkIs_50 : decode cX9_linkIs 50 = .ok (.aload_n 0, 1) := by decide +kernel
theorem dX9_linkIs_51 : decode cX9_linkIs 51 = .ok (.getfield 469, 3) := by decide +kernel
theorem dX9_linkIs_54 : decode cX9_linkIs 54 = .ok (.ireturn, 1) := by decide +kernel
theorem dX9_linkIs_55 : decode cX9_linkIs 55 = .ok (.iload_n 2, 1) := by decide +kernel
theorem dX9_linkIs_56 : decode cX9_linkIs 56 = .ok (.tableswitch 142 0 8 #[52, 62, 72, 82, 96, 102, 126, 131, 136], 52) := by decide +kernel
theorem dX9_linkIs_108 : decode cX9_linkIs 108 = .ok (.aload_n 0, 1) := by decide +kernel
theorem dX9_linkIs_109 : decode cX9_linkIs 109 = .ok (.getfield 7, 3) := by decide +kernel
theorem dX9_linkIs_112 : decode cX9_linkIs 112 = .ok (.bipush 16, 2) := by decide +kernel
theorem dX9_linkIs_114 : decode cX9_linkIs 114 = .ok (.iload_n 1, 1) := by decide +kernel
theorem dX9_linkIs_115 : decode cX9_linkIs 115 = .ok (.iadd, 1) := by decide +kernel
theorem dX9_linkIs_116 : decode cX9_linkIs 116 = .ok (.iaload, 1) := by decide +kernel
theorem dX9_linkIs_117 : decode cX9_linkIs 117 = .ok (.ireturn, 1) := by decide +kernel
theorem dX9_linkIs_118 : decode cX9_linkIs 118 = .ok (.aload_n 0, 1) := by decide +kernel
theorem dX9_linkIs_119 : decode cX9_linkIs 119 = .ok (.getfield 7, 3) := by decide +kernel
theorem dX9_linkIs_122 : decode cX9_linkIs 122 = .ok (.bipush 30, 2) := by decide +kernel
theorem dX9_linkIs_124 : decode cX9_linkIs 124 = .ok (.iload_n 1, 1) := by decide +kernel
theorem dX9_linkIs_125 : decode cX9_linkIs 125 = .ok (.iadd, 1) := by decide +kernel
theorem dX9_linkIs_126 : decode cX9_linkIs 126 = .ok (.iaload, 1) := by decide +kernel
theorem dX9_linkIs_127 : decode cX9_linkIs 127 = .ok (.ireturn, 1) := by decide +kernel
theorem dX9_linkIs_128 : decode cX9_linkIs 128 = .ok (.aload_n 0, 1) := by decide +kernel
theorem dX9_linkIs_129 : decode cX9_linkIs 129 = .ok (.getfield 7, 3) := by decide +kernel
theorem dX9_linkIs_132 : decode cX9_linkIs 132 = .ok (.bipush 44, 2) := by decide +kernel
theorem dX9_linkIs_134 : decode cX9_linkIs 134 = .ok (.iload_n 1, 1) := by decide +kernel
theorem dX9_linkIs_135 : decode cX9_linkIs 135 = .ok (.iadd, 1) := by decide +kernel
theorem dX9_linkIs_136 : decode cX9_linkIs 136 = .ok (.iaload, 1) := by decide +kernel
theorem dX9_linkIs_137 : decode cX9_linkIs 137 = .ok (.ireturn, 1) := by decide +kernel
theorem dX9_linkIs_138 : decode cX9_linkIs 138 = .ok (.aload_n 0, 1) := by decide +kernel
theorem dX9_linkIs_139 : decode cX9_linkIs 139 = .ok (.iload_n 1, 1) := by decide +kernel
theorem dX9_linkIs_140 : decode cX9_linkIs 140 = .ok (.invokevirtual 182, 3) := by decide +kernel
theorem dX9_linkIs_143 : decode cX9_linkIs 143 = .ok (.ifCond .eq 7, 3) := by decide +kernel
theorem dX9_linkIs_146 : decode cX9_linkIs 146 = .ok (.iconst 1, 1) := by decide +kernel
theorem dX9_linkIs_147 : decode cX9_linkIs 147 = .ok (.goto 4, 3) := by decide +kernel
theorem dX9_linkIs_150 : decode cX9_linkIs 150 = .ok (.iconst 0, 1) := by decide +kernel
theorem dX9_linkIs_151 : decode cX9_linkIs 151 = .ok (.ireturn, 1) := by decide +kernel
theorem dX9_linkIs_152 : decode cX9_linkIs 152 = .ok (.aload_n 0, 1) := by decide +kernel
theorem dX9_linkIs_153 : decode cX9_linkIs 153 = .ok (.iload_n 1, 1) := by decide +kernel
theorem dX9_linkIs_154 : decode cX9_linkIs 154 = .ok (.invokevirtual 454, 3) := by decide +kernel
theorem dX9_linkIs_157 : decode cX9_linkIs 157 = .ok (.ireturn, 1) := by decide +kernel
theorem dX9_linkIs_158 : decode cX9_linkIs 158 = .ok (.aload_n 0, 1) := by decide +kernel
theorem dX9_linkIs_159 : decode cX9_linkIs 159 = .ok (.iconst 1, 1) := by decide +kernel
theorem dX9_linkIs_160 : decode cX9_linkIs 160 = .ok (.iload_n 1, 1) := by decide +kernel
theorem dX9_linkIs_161 : decode cX9_linkIs 161 = .ok (.ishl, 1) := by decide +kernel
theorem dX9_linkIs_162 : decode cX9_linkIs 162 = .ok (.invokevirtual 308, 3) := by decide +kernel
theorem dX9_linkIs_165 : decode cX9_linkIs 165 = .ok (.iconst (-1), 1) := by decide +kernel
theorem dX9_linkIs_166 : decode cX9_linkIs 166 = .ok (.if_icmp .ne 8, 3) := by decide +kernel
theorem dX9_linkIs_169 : decode cX9_linkIs 169 = .ok (.bipush (-2), 2) := by decide +kernel
theorem dX9_linkIs_171 : decode cX9_linkIs 171 = .ok (.goto 10, 3) := by decide +kernel
theorem dX9_linkIs_174 : decode cX9_linkIs 174 = .ok (.aload_n 0, 1) := by decide +kernel
theorem dX9_linkIs_175 : decode cX9_linkIs 175 = .ok (.iconst 1, 1) := by decide +kernel
theorem dX9_linkIs_176 : decode cX9_linkIs 176 = .ok (.iload_n 1, 1) := by decide +kernel
theorem dX9_linkIs_177 : decode cX9_linkIs 177 = .ok (.ishl, 1) := by decide +kernel
theorem dX9_linkIs_178 : decode cX9_linkIs 178 = .ok (.invokevirtual 308, 3) := by decide +kernel
theorem dX9_linkIs_181 : decode cX9_linkIs 181 = .ok (.ireturn, 1) := by decide +kernel
theorem dX9_linkIs_182 : decode cX9_linkIs 182 = .ok (.aload_n 0, 1) := by decide +kernel
theorem dX9_linkIs_183 : decode cX9_linkIs 183 = .ok (.getfield 463, 3) := by decide +kernel
theorem dX9_linkIs_186 : decode cX9_linkIs 186 = .ok (.ireturn, 1) := by decide +kernel
theorem dX9_linkIs_187 : decode cX9_linkIs 187 = .ok (.aload_n 0, 1) := by decide +kernel
theorem dX9_linkIs_188 : decode cX9_linkIs 188 = .ok (.getfield 466, 3) := by decide +kernel
theorem dX9_linkIs_191 : decode cX9_linkIs 191 = .ok (.ireturn, 1) := by decide +kernel
theorem dX9_linkIs_192 : decode cX9_linkIs 192 = .ok (.aload_n 0, 1) := by decide +kernel
theorem dX9_linkIs_193 : decode cX9_linkIs 193 = .ok (.iload_n 1, 1) := by decide +kernel
theorem dX9_linkIs_194 : decode cX9_linkIs 194 = .ok (.invokevirtual 475, 3) := by decide +kernel
theorem dX9_linkIs_197 : decode cX9_linkIs 197 = .ok (.ireturn, 1) := by decide +kernel
theorem dX9_linkIs_198 : decode cX9_linkIs 198 = .ok (.aload_n 0, 1) := by decide +kernel
theorem dX9_linkIs_199 : decode cX9_linkIs 199 = .ok (.iload_n 1, 1) := by decide +kernel
theorem dX9_linkIs_200 : decode cX9_linkIs 200 = .ok (.invokevirtual 478, 3) := by decide +kernel
theorem dX9_linkIs_203 : decode cX9_linkIs 203 = .ok (.ireturn, 1) := by decide +kernel
theorem dX9_lengthOf_0 : decode cX9_lengthOf 0 = .ok (.iconst 0, 1) := by decide +kernel
theorem dX9_lengthOf_1 : decode cX9_lengthOf 1 = .ok (.istore_n 2, 1) := by decide +kernel
theorem dX9_lengthOf_2 : decode cX9_lengthOf 2 = .ok (.iconst 0, 1) := by decide +kernel
theorem dX9_lengthOf_3 : decode cX9_lengthOf 3 = .ok (.istore_n 3, 1) := by decide +kernel
theorem dX9_lengthOf_4 : decode cX9_lengthOf 4 = .ok (.iload_n 3, 1) := by decide +kernel
theorem dX9_lengthOf_5 : decode cX9_lengthOf 5 = .ok (.aload_n 0, 1) := by decide +kernel
theorem dX9_lengthOf_6 : decode cX9_lengthOf 6 = .ok (.getfield 7, 3) := by decide +kernel
theorem dX9_lengthOf_9 : decode cX9_lengthOf 9 = .ok (.iconst 3, 1) := by decide +kernel
theorem dX9_lengthOf_10 : decode cX9_lengthOf 10 = .ok (.iaload, 1) := by decide +kernel
theorem dX9_lengthOf_11 : decode cX9_lengthOf 11 = .ok (.if_icmp .ge 29, 3) := by decide +kernel
theorem dX9_lengthOf_14 : decode cX9_lengthOf 14 = .ok (.iload_n 1, 1) := by decide +kernel
theorem dX9_lengthOf_15 : decode cX9_lengthOf 15 = .ok (.iload_n 3, 1) := by decide +kernel
theorem dX9_lengthOf_16 : decode cX9_lengthOf 16 = .ok (.invokestatic 179, 3) := by decide +kernel
theorem dX9_lengthOf_19 : decode cX9_lengthOf 19 = .ok (.ifCond .eq 15, 3) := by decide +kernel
theorem dX9_lengthOf_22 : decode cX9_lengthOf 22 = .ok (.iload_n 2, 1) := by decide +kernel
theorem dX9_lengthOf_23 : decode cX9_lengthOf 23 = .ok (.aload_n 0, 1) := by decide +kernel
theorem dX9_lengthOf_24 : decode cX9_lengthOf 24 = .ok (.getfield 7, 3) := by decide +kernel
theorem dX9_lengthOf_27 : decode cX9_lengthOf 27 = .ok (.bipush 44, 2) := by decide +kernel
theorem dX9_lengthOf_29 : decode cX9_lengthOf 29 = .ok (.iload_n 3, 1) := by decide +kernel
theorem dX9_lengthOf_30 : decode cX9_lengthOf 30 = .ok (.iadd, 1) := by decide +kernel
theorem dX9_lengthOf_31 : decode cX9_lengthOf 31 = .ok (.iaload, 1) := by decide +kernel
theorem dX9_lengthOf_32 : decode cX9_lengthOf 32 = .ok (.iadd, 1) := by decide +kernel
theorem dX9_lengthOf_33 : decode cX9_lengthOf 33 = .ok (.istore_n 2, 1) := by decide +kernel
theorem dX9_lengthOf_34 : decode cX9_lengthOf 34 = .ok (.iinc 3 1, 3) := by decide +kernel
theorem dX9_lengthOf_37 : decode cX9_lengthOf 37 = .ok (.goto (-33), 3) := by decide +kernel
theorem dX9_lengthOf_40 : decode cX9_lengthOf 40 = .ok (.iload_n 2, 1) := by decide +kernel
theorem dX9_lengthOf_41 : decode cX9_lengthOf 41 = .ok (.ireturn, 1) := by decide +kernel
theorem dX9_demandIs_0 : decode cX9_demandIs 0 = .ok (.aload_n 0, 1) := by decide +kernel
theorem dX9_demandIs_1 : decode cX9_demandIs 1 = .ok (.iload_n 1, 1) := by decide +kernel
theorem dX9_demandIs_2 : decode cX9_demandIs 2 = .ok (.invokevirtual 281, 3) := by decide +kernel
theorem dX9_demandIs_5 : decode cX9_demandIs 5 = .ok (.ifCond .eq 13, 3) := by decide +kernel
theorem dX9_demandIs_8 : decode cX9_demandIs 8 = .ok (.iload_n 2, 1) := by decide +kernel
theorem dX9_demandIs_9 : decode cX9_demandIs 9 = .ok (.iconst 0, 1) := by decide +kernel
theorem dX9_demandIs_10 : decode cX9_demandIs 10 = .ok (.bipush 11, 2) := by decide +kernel
theorem dX9_demandIs_12 : decode cX9_demandIs 12 = .ok (.invokestatic 83, 3) := by decide +kernel
theorem dX9_demandIs_15 : decode cX9_demandIs 15 = .ok (.ifCond .ne 5, 3) := by decide +kernel
theorem dX9_demandIs_18 : decode cX9_demandIs 18 = .ok (.iconst (-1), 1) := by decide +kernel
theorem dX9_demandIs_19 : decode cX9_demandIs 19 = .ok (.ireturn, 1) := by decide +kernel
theorem dX9_demandIs_20 : decode cX9_demandIs 20 = .ok (.iload_n 2, 1) := by decide +kernel
theorem dX9_demandIs_21 : decode cX9_demandIs 21 = .ok (.iconst 4, 1) := by decide +kernel
theorem dX9_demandIs_22 : decode cX9_demandIs 22 = .ok (.if_icmp .ge 10, 3) := by decide +kernel
theorem dX9_demandIs_25 : decode cX9_demandIs 25 = .ok (.aload_n 0, 1) := by decide +kernel
theorem dX9_demandIs_26 : decode cX9_demandIs 26 = .ok (.iload_n 1, 1) := by decide +kernel
theorem dX9_demandIs_27 : decode cX9_demandIs 27 = .ok (.iload_n 2, 1) := by decide +kernel
theorem dX9_demandIs_28 : decode cX9_demandIs 28 = .ok (.invokevirtual 79, 3) := by decide +kernel
theorem dX9_demandIs_31 : decode cX9_demandIs 31 = .ok (.ireturn, 1) := by decide +kernel
theorem dX9_demandIs_32 : decode cX9_demandIs 32 = .ok (.aload_n 0, 1) := by decide +kernel
theorem dX9_demandIs_33 : decode cX9_demandIs 33 = .ok (.iload_n 1, 1) := by decide +kernel
theorem dX9_demandIs_34 : decode cX9_demandIs 34 = .ok (.iconst 3, 1) := by decide +kernel
theorem dX9_demandIs_35 : decode cX9_demandIs 35 = .ok (.invokevirtual 79, 3) := by decide +kernel
theorem dX9_demandIs_38 : decode cX9_demandIs 38 = .ok (.istore_n 3, 1) := by decide +kernel
theorem dX9_demandIs_39 : decode cX9_demandIs 39 = .ok (.iload_n 2, 1) := by decide +kernel
theorem dX9_demandIs_40 : decode cX9_demandIs 40 = .ok (.bipush 11, 2) := by decide +kernel
theorem dX9_demandIs_42 : decode cX9_demandIs 42 = .ok (.if_icmp .ne 36, 3) := by decide +kernel
theorem dX9_demandIs_45 : decode cX9_demandIs 45 = .ok (.iload_n 3, 1) := by decide +kernel
theorem dX9_demandIs_46 : decode cX9_demandIs 46 = .ok (.ifCond .eq 8, 3) := by decide +kernel
theorem dX9_demandIs_49 : decode cX9_demandIs 49 = .ok (.iload_n 3, 1) := by decide +kernel
theorem dX9_demandIs_50 : decode cX9_demandIs 50 = .ok (.iconst 2, 1) := by decide +kernel
theorem dX9_demandIs_51 : decode cX9_demandIs 51 = .ok (.if_icmp .ne 24, 3) := by decide +kernel
theorem dX9_demandIs_54 : decode cX9_demandIs 54 = .ok (.aload_n 0, 1) := by decide +kernel
theorem dX9_demandIs_55 : decode cX9_demandIs 55 = .ok (.iload_n 1, 1) := by decide +kernel
theorem dX9_demandIs_56 : decode cX9_demandIs 56 = .ok (.bipush 7, 2) := by decide +kernel
theorem dX9_demandIs_58 : decode cX9_demandIs 58 = .ok (.invokevirtual 79, 3) := by decide +kernel
theorem dX9_demandIs_61 : decode cX9_demandIs 61 = .ok (.iconst (-1), 1) := by decide +kernel
theorem dX9_demandIs_62 : decode cX9_demandIs 62 = .ok (.if_icmp .eq 13, 3) := by decide +kernel
theorem dX9_demandIs_65 : decode cX9_demandIs 65 = .ok (.aload_n 0, 1) := by decide +kernel
theorem dX9_demandIs_66 : decode cX9_demandIs 66 = .ok (.iload_n 1, 1) := by decide +kernel
theorem dX9_demandIs_67 : decode cX9_demandIs 67 = .ok (.bipush 7, 2) := by decide +kernel
theorem dX9_demandIs_69 : decode cX9_demandIs 69 = .ok (.invokevirtual 79, 3) := by decide +kernel
theorem dX9_demandIs_72 : decode cX9_demandIs 72 = .ok (.goto 5, 3) := by decide +kernel
theorem dX9_demandIs_75 : decode cX9_demandIs 75 = .ok (.bipush (-2), 2) := by decide +kernel
theorem dX9_demandIs_77 : decode cX9_demandIs 77 = .ok (.ireturn, 1) := by decide +kernel
theorem dX9_demandIs_78 : decode cX9_demandIs 78 = .ok (.iload_n 3, 1) := by decide +kernel
theorem dX9_demandIs_79 : decode cX9_demandIs 79 = .ok (.ifCond .eq 6, 3) := by decide +kernel
theorem dX9_demandIs_82 : decode cX9_demandIs 82 = .ok (.bipush (-2), 2) := by decide +kernel
theorem dX9_demandIs_84 : decode cX9_demandIs 84 = .ok (.ireturn, 1) := by decide +kernel
theorem dX9_demandIs_85 : decode cX9_demandIs 85 = .ok (.iload_n 2, 1) := by decide +kernel
theorem dX9_demandIs_86 : decode cX9_demandIs 86 = .ok (.tableswitch 99 4 9 #[38, 45, 52, 63, 71, 83], 38) := by decide +kernel
theorem dX9_demandIs_124 : decode cX9_demandIs 124 = .ok (.aload_n 0, 1) := by decide +kernel
theorem dX9_demandIs_125 : decode cX9_demandIs 125 = .ok (.iload_n 1, 1) := by decide +kernel
theorem dX9_demandIs_126 : decode cX9_demandIs 126 = .ok (.iconst 4, 1) := by decide +kernel
theorem dX9_demandIs_127 : decode cX9_demandIs 127 = .ok (.invokevirtual 79, 3) := by decide +kernel
theorem dX9_demandIs_130 : decode cX9_demandIs 130 = .ok (.ireturn, 1) := by decide +kernel
theorem dX9_demandIs_131 : decode cX9_demandIs 131 = .ok (.aload_n 0, 1) := by decide +kernel
theorem dX9_demandIs_132 : decode cX9_demandIs 132 = .ok (.iload_n 1, 1) := by decide +kernel
theorem dX9_demandIs_133 : decode cX9_demandIs 133 = .ok (.iconst 5, 1) := by decide +kernel
theorem dX9_demandIs_134 : decode cX9_demandIs 134 = .ok (.invokevirtual 79, 3) := by decide +kernel
theorem dX9_demandIs_137 : decode cX9_demandIs 137 = .ok (.ireturn, 1) := by decide +kernel
theorem dX9_demandIs_138 : decode cX9_demandIs 138 = .ok (.aload_n 0, 1) := by decide +kernel
theorem dX9_demandIs_139 : decode cX9_demandIs 139 = .ok (.iload_n 1, 1) := by decide +kernel
theorem dX9_demandIs_140 : decode cX9_demandIs 140 = .ok (.bipush 6, 2) := by decide +kernel
theorem dX9_demandIs_142 : decode cX9_demandIs 142 = .ok (.invokevirtual 79, 3) := by decide +kernel
theorem dX9_demandIs_145 : decode cX9_demandIs 145 = .ok (.invokestatic 481, 3) := by decide +kernel
theorem dX9_demandIs_148 : decode cX9_demandIs 148 = .ok (.ireturn, 1) := by decide +kernel
theorem dX9_demandIs_149 : decode cX9_demandIs 149 = .ok (.aload_n 0, 1) := by decide +kernel
theorem dX9_demandIs_150 : decode cX9_demandIs 150 = .ok (.iload_n 1, 1) := by decide +kernel
theorem dX9_demandIs_151 : decode cX9_demandIs 151 = .ok (.bipush 6, 2) := by decide +kernel
theorem dX9_demandIs_153 : decode cX9_demandIs 153 = .ok (.invokevirtual 79, 3) := by decide +kernel
theorem dX9_demandIs_156 : decode cX9_demandIs 156 = .ok (.ireturn, 1) := by decide +kernel
theorem dX9_demandIs_157 : decode cX9_demandIs 157 = .ok (.aload_n 0, 1) := by decide +kernel
theorem dX9_demandIs_158 : decode cX9_demandIs 158 = .ok (.aload_n 0, 1) := by decide +kernel
theorem dX9_demandIs_159 : decode cX9_demandIs 159 = .ok (.iload_n 1, 1) := by decide +kernel
theorem dX9_demandIs_160 : decode cX9_demandIs 160 = .ok (.bipush 6, 2) := by decide +kernel
theorem dX9_demandIs_162 : decode cX9_demandIs 162 = .ok (.invokevirtual 79, 3) := by decide +kernel
theorem dX9_demandIs_165 : decode cX9_demandIs 165 = .ok (.invokevirtual 484, 3) := by decide +kernel
theorem dX9_demandIs_168 : decode cX9_demandIs 168 = .ok (.ireturn, 1) := by decide +kernel
theorem dX9_demandIs_169 : decode cX9_demandIs 169 = .ok (.aload_n 0, 1) := by decide +kernel
theorem dX9_demandIs_170 : decode cX9_demandIs 170 = .ok (.aload_n 0, 1) := by decide +kernel
theorem dX9_demandIs_171 : decode cX9_demandIs 171 = .ok (.aload_n 0, 1) := by decide +kernel
theorem dX9_demandIs_172 : decode cX9_demandIs 172 = .ok (.iload_n 1, 1) := by decide +kernel
theorem dX9_demandIs_173 : decode cX9_demandIs 173 = .ok (.bipush 6, 2) := by decide +kernel
theorem dX9_demandIs_175 : decode cX9_demandIs 175 = .ok (.invokevirtual 79, 3) := by decide +kernel
theorem dX9_demandIs_178 : decode cX9_demandIs 178 = .ok (.invokevirtual 484, 3) := by decide +kernel
theorem dX9_demandIs_181 : decode cX9_demandIs 181 = .ok (.invokevirtual 208, 3) := by decide +kernel
theorem dX9_demandIs_184 : decode cX9_demandIs 184 = .ok (.ireturn, 1) := by decide +kernel
theorem dX9_demandIs_185 : decode cX9_demandIs 185 = .ok (.aload_n 0, 1) := by decide +kernel
theorem dX9_demandIs_186 : decode cX9_demandIs 186 = .ok (.iload_n 1, 1) := by decide +kernel
theorem dX9_demandIs_187 : decode cX9_demandIs 187 = .ok (.iconst 4, 1) := by decide +kernel
theorem dX9_demandIs_188 : decode cX9_demandIs 188 = .ok (.invokevirtual 79, 3) := by decide +kernel
theorem dX9_demandIs_191 : decode cX9_demandIs 191 = .ok (.aload_n 0, 1) := by decide +kernel
theorem dX9_demandIs_192 : decode cX9_demandIs 192 = .ok (.iload_n 1, 1) := by decide +kernel
theorem dX9_demandIs_193 : decode cX9_demandIs 193 = .ok (.invokevirtual 284, 3) := by decide +kernel
theorem dX9_demandIs_196 : decode cX9_demandIs 196 = .ok (.isub, 1) := by decide +kernel
theorem dX9_demandIs_197 : decode cX9_demandIs 197 = .ok (.ireturn, 1) := by decide +kernel
theorem dX9_seed_0 : decode cX9_seed 0 = .ok (.iload_n 1, 1) := by decide +kernel
theorem dX9_seed_1 : decode cX9_seed 1 = .ok (.iconst 0, 1) := by decide +kernel
theorem dX9_seed_2 : decode cX9_seed 2 = .ok (.ldc_w 487, 3) := by decide +kernel
theorem dX9_seed_5 : decode cX9_seed 5 = .ok (.invokestatic 83, 3) := by decide +kernel
theorem dX9_seed_8 : decode cX9_seed 8 = .ok (.ifCond .ne 5, 3) := by decide +kernel
theorem dX9_seed_11 : decode cX9_seed 11 = .ok (.iconst 0, 1) := by decide +kernel
theorem dX9_seed_12 : decode cX9_seed 12 = .ok (.ireturn, 1) := by decide +kernel
theorem dX9_seed_13 : decode cX9_seed 13 = .ok (.aload_n 0, 1) := by decide +kernel
theorem dX9_seed_14 : decode cX9_seed 14 = .ok (.getfield 7, 3) := by decide +kernel
theorem dX9_seed_17 : decode cX9_seed 17 = .ok (.bipush 6, 2) := by decide +kernel
theorem dX9_seed_19 : decode cX9_seed 19 = .ok (.iload_n 1, 1) := by decide +kernel
theorem dX9_seed_20 : decode cX9_seed 20 = .ok (.iastore, 1) := by decide +kernel
theorem dX9_seed_21 : decode cX9_seed 21 = .ok (.iconst 1, 1) := by decide +kernel
theorem dX9_seed_22 : decode cX9_seed 22 = .ok (.ireturn, 1) := by decide +kernel
theorem dX9_keep_0 : decode cX9_keep 0 = .ok (.aload_n 0, 1) := by decide +kernel
theorem dX9_keep_1 : decode cX9_keep 1 = .ok (.iconst 1, 1) := by decide +kernel
theorem dX9_keep_2 : decode cX9_keep 2 = .ok (.putfield 488, 3) := by decide +kernel
theorem dX9_keep_5 : decode cX9_keep 5 = .ok (.aload_n 0, 1) := by decide +kernel
theorem dX9_keep_6 : decode cX9_keep 6 = .ok (.iconst 0, 1) := by decide +kernel
theorem dX9_keep_7 : decode cX9_keep 7 = .ok (.iconst 1, 1) := by decide +kernel
theorem dX9_keep_8 : decode cX9_keep 8 = .ok (.invokevirtual 311, 3) := by decide +kernel
theorem dX9_keep_11 : decode cX9_keep 11 = .ok (.aload_n 0, 1) := by decide +kernel
theorem dX9_keep_12 : decode cX9_keep 12 = .ok (.getfield 7, 3) := by decide +kernel
theorem dX9_keep_15 : decode cX9_keep 15 = .ok (.bipush 7, 2) := by decide +kernel
theorem dX9_keep_17 : decode cX9_keep 17 = .ok (.iaload, 1) := by decide +kernel
theorem dX9_keep_18 : decode cX9_keep 18 = .ok (.ireturn, 1) := by decide +kernel
theorem dX9_undo_0 : decode cX9_undo 0 = .ok (.aload_n 0, 1) := by decide +kernel
theorem dX9_undo_1 : decode cX9_undo 1 = .ok (.getfield 488, 3) := by decide +kernel
theorem dX9_undo_4 : decode cX9_undo 4 = .ok (.ifCond .ne 5, 3) := by decide +kernel
theorem dX9_undo_7 : decode cX9_undo 7 = .ok (.iconst 0, 1) := by decide +kernel
theorem dX9_undo_8 : decode cX9_undo 8 = .ok (.ireturn, 1) := by decide +kernel
theorem dX9_undo_9 : decode cX9_undo 9 = .ok (.aload_n 0, 1) := by decide +kernel
theorem dX9_undo_10 : decode cX9_undo 10 = .ok (.iconst 1, 1) := by decide +kernel
theorem dX9_undo_11 : decode cX9_undo 11 = .ok (.iconst 0, 1) := by decide +kernel
theorem dX9_undo_12 : decode cX9_undo 12 = .ok (.invokevirtual 311, 3) := by decide +kernel
theorem dX9_undo_15 : decode cX9_undo 15 = .ok (.iconst 1, 1) := by decide +kernel
theorem dX9_undo_16 : decode cX9_undo 16 = .ok (.ireturn, 1) := by decide +kernel
theorem dX9_check_0 : decode cX9_check 0 = .ok (.iload_n 1, 1) := by decide +kernel
theorem dX9_check_1 : decode cX9_check 1 = .ok (.iconst 0, 1) := by decide +kernel
theorem dX9_check_2 : decode cX9_check 2 = .ok (.bipush 40, 2) := by decide +kernel
theorem dX9_check_4 : decode cX9_check 4 = .ok (.invokestatic 83, 3) := by decide +kernel
theorem dX9_check_7 : decode cX9_check 7 = .ok (.ifCond .eq 11, 3) := by decide +kernel
theorem dX9_check_10 : decode cX9_check 10 = .ok (.iload_n 1, 1) := by decide +kernel
theorem dX9_check_11 : decode cX9_check 11 = .ok (.aload_n 0, 1) := by decide +kernel
theorem dX9_check_12 : decode cX9_check 12 = .ok (.getfield 87, 3) := by decide +kernel
theorem dX9_check_15 : decode cX9_check 15 = .ok (.if_icmp .le 6, 3) := by decide +kernel
theorem dX9_check_18 : decode cX9_check 18 = .ok (.bipush (-2), 2) := by decide +kernel
theorem dX9_check_20 : decode cX9_check 20 = .ok (.ireturn, 1) := by decide +kernel
theorem dX9_check_21 : decode cX9_check 21 = .ok (.iconst (-1), 1) := by decide +kernel
theorem dX9_check_22 : decode cX9_check 22 = .ok (.istore_n 2, 1) := by decide +kernel
theorem dX9_check_23 : decode cX9_check 23 = .ok (.iload_n 1, 1) := by decide +kernel
theorem dX9_check_24 : decode cX9_check 24 = .ok (.iconst 1, 1) := by decide +kernel
theorem dX9_check_25 : decode cX9_check 25 = .ok (.isub, 1) := by decide +kernel
theorem dX9_check_26 : decode cX9_check 26 = .ok (.istore_n 3, 1) := by decide +kernel
theorem dX9_check_27 : decode cX9_check 27 = .ok (.iload_n 3, 1) := by decide +kernel
theorem dX9_check_28 : decode cX9_check 28 = .ok (.ifCond .lt 55, 3) := by decide +kernel
theorem dX9_check_31 : decode cX9_check 31 = .ok (.iload_n 3, 1) := by decide +kernel
theorem dX9_check_32 : decode cX9_check 32 = .ok (.aload_n 0, 1) := by decide +kernel
theorem dX9_check_33 : decode cX9_check 33 = .ok (.getfield 7, 3) := by decide +kernel
theorem dX9_check_36 : decode cX9_check 36 = .ok (.bipush 7, 2) := by decide +kernel
theorem dX9_check_38 : decode cX9_check 38 = .ok (.iaload, 1) := by decide +kernel
theorem dX9_check_39 : decode cX9_check 39 = .ok (.if_icmp .ge 36, 3) := by decide +kernel
theorem dX9_check_42 : decode cX9_check 42 = .ok (.aload_n 0, 1) := by decide +kernel
theorem dX9_check_43 : decode cX9_check 43 = .ok (.getfield 16, 3) := by decide +kernel
theorem dX9_check_46 : decode cX9_check 46 = .ok (.iload_n 3, 1) := by decide +kernel
theorem dX9_check_47 : decode cX9_check 47 = .ok (.baload, 1) := by decide +kernel
theorem dX9_check_48 : decode cX9_check 48 = .ok (.sipush 255, 3) := by decide +kernel
theorem dX9_check_51 : decode cX9_check 51 = .ok (.iand, 1) := by decide +kernel
theorem dX9_check_52 : decode cX9_check 52 = .ok (.aload_n 0, 1) := by decide +kernel
theorem dX9_check_53 : decode cX9_check 53 = .ok (.iload_n 3, 1) := by decide +kernel
theorem dX9_check_54 : decode cX9_check 54 = .ok (.invokevirtual 219, 3) := by decide +kernel
theorem dX9_check_57 : decode cX9_check 57 = .ok (.ifCond .eq 12, 3) := by decide +kernel
theorem dX9_check_60 : decode cX9_check 60 = .ok (.aload_n 0, 1) := by decide +kernel
theorem dX9_check_61 : decode cX9_check 61 = .ok (.iload_n 3, 1) := by decide +kernel
theorem dX9_check_62 : decode cX9_check 62 = .ok (.iconst 4, 1) := by decide +kernel
theorem dX9_check_63 : decode cX9_check 63 = .ok (.invokevirtual 79, 3) := by decide +kernel
theorem dX9_check_66 : decode cX9_check 66 = .ok (.goto 6, 3) := by decide +kernel
theorem dX9_check_69 : decode cX9_check 69 = .ok (.sipush 255, 3) := by decide +kernel
theorem dX9_check_72 : decode cX9_check 72 = .ok (.if_icmp .eq 5, 3) := by decide +kernel
theorem dX9_check_75 : decode cX9_check 75 = .ok (.iload_n 3, 1) := by decide +kernel
theorem dX9_check_76 : decode cX9_check 76 = .ok (.istore_n 2, 1) := by decide +kernel
theorem dX9_check_77 : decode cX9_check 77 = .ok (.iinc 3 (-1), 3) := by decide +kernel
theorem dX9_check_80 : decode cX9_check 80 = .ok (.goto (-53), 3) := by decide +kernel
theorem dX9_check_83 : decode cX9_check 83 = .ok (.aload_n 0, 1) := by decide +kernel
theorem dX9_check_84 : decode cX9_check 84 = .ok (.iconst 0, 1) := by decide +kernel
theorem dX9_check_85 : decode cX9_check 85 = .ok (.putfield 87, 3) := by decide +kernel
theorem dX9_check_88 : decode cX9_check 88 = .ok (.iload_n 2, 1) := by decide +kernel
theorem dX9_check_89 : decode cX9_check 89 = .ok (.ireturn, 1) := by decide +kernel
theorem dX9_count_0 : decode cX9_count 0 = .ok (.iload_n 1, 1) := by decide +kernel
theorem dX9_count_1 : decode cX9_count 1 = .ok (.ifCond .ne 13, 3) := by decide +kernel
theorem dX9_count_4 : decode cX9_count 4 = .ok (.aload_n 0, 1) := by decide +kernel
theorem dX9_count_5 : decode cX9_count 5 = .ok (.getfield 7, 3) := by decide +kernel
theorem dX9_count_8 : decode cX9_count 8 = .ok (.bipush 7, 2) := by decide +kernel
theorem dX9_count_10 : decode cX9_count 10 = .ok (.iaload, 1) := by decide +kernel
theorem dX9_count_11 : decode cX9_count 11 = .ok (.goto 30, 3) := by decide +kernel
theorem dX9_count_14 : decode cX9_count 14 = .ok (.iload_n 1, 1) := by decide +kernel
theorem dX9_count_15 : decode cX9_count 15 = .ok (.iconst 1, 1) := by decide +kernel
theorem dX9_count_16 : decode cX9_count 16 = .ok (.if_icmp .ne 10, 3) := by decide +kernel
theorem dX9_count_19 : decode cX9_count 19 = .ok (.aload_n 0, 1) := by decide +kernel
theorem dX9_count_20 : decode cX9_count 20 = .ok (.getfield 87, 3) := by decide +kernel
theorem dX9_count_23 : decode cX9_count 23 = .ok (.goto 18, 3) := by decide +kernel
theorem dX9_count_26 : decode cX9_count 26 = .ok (.iload_n 1, 1) := by decide +kernel
theorem dX9_count_27 : decode cX9_count 27 = .ok (.iconst 2, 1) := by decide +kernel
theorem dX9_count_28 : decode cX9_count 28 = .ok (.if_icmp .ne 12, 3) := by decide +kernel
theorem dX9_count_31 : decode cX9_count 31 = .ok (.aload_n 0, 1) := by decide +kernel
theorem dX9_count_32 : decode cX9_count 32 = .ok (.getfield 7, 3) := by decide +kernel
theorem dX9_count_35 : decode cX9_count 35 = .ok (.iconst 4, 1) := by decide +kernel
theorem dX9_count_36 : decode cX9_count 36 = .ok (.iaload, 1) := by decide +kernel
theorem dX9_count_37 : decode cX9_count 37 = .ok (.goto 4, 3) := by decide +kernel
theorem dX9_count_40 : decode cX9_count 40 = .ok (.iconst (-1), 1) := by decide +kernel
theorem dX9_count_41 : decode cX9_count 41 = .ok (.ireturn, 1) := by decide +kernel
