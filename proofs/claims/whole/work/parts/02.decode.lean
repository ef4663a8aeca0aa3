theorem dX0_init_0 : decode cX0_init 0 = .ok (.aload_n 0, 1) := by decide +kernel
theorem dX0_init_1 : decode cX0_init 1 = .ok (.invokespecial 3, 3) := by decide +kernel
theorem dX0_init_4 : decode cX0_init 4 = .ok (.aload_n 0, 1) := by decide +kernel
theorem dX0_init_5 : decode cX0_init 5 = .ok (.new 9, 3) := by decide +kernel
theorem dX0_init_8 : decode cX0_init 8 = .ok (.dup, 1) := by decide +kernel
theorem dX0_init_9 : decode cX0_init 9 = .ok (.invokespecial 11, 3) := by decide +kernel
theorem dX0_init_12 : decode cX0_init 12 = .ok (.putfield 12, 3) := by decide +kernel
theorem dX0_init_15 : decode cX0_init 15 = .ok (.aload_n 0, 1) := by decide +kernel
theorem dX0_init_16 : decode cX0_init 16 = .ok (.iconst (-1), 1) := by decide +kernel
theorem dX0_init_17 : decode cX0_init 17 = .ok (.putfield 18, 3) := by decide +kernel
theorem dX0_init_20 : decode cX0_init 20 = .ok (.aload_n 0, 1) := by decide +kernel
theorem dX0_init_21 : decode cX0_init 21 = .ok (.iconst 0, 1) := by decide +kernel
theorem dX0_init_22 : decode cX0_init 22 = .ok (.putfield 22, 3) := by decide +kernel
theorem dX0_init_25 : decode cX0_init 25 = .ok (.aload_n 0, 1) := by decide +kernel
theorem dX0_init_26 : decode cX0_init 26 = .ok (.iconst 0, 1) := by decide +kernel
theorem dX0_init_27 : decode cX0_init 27 = .ok (.putfield 25, 3) := by decide +kernel
theorem dX0_init_30 : decode cX0_init 30 = .ok (.aload_n 0, 1) := by decide +kernel
theorem dX0_init_31 : decode cX0_init 31 = .ok (.iconst 0, 1) := by decide +kernel
theorem dX0_init_32 : decode cX0_init 32 = .ok (.putfield 28, 3) := by decide +kernel
theorem dX0_init_35 : decode cX0_init 35 = .ok (.aload_n 0, 1) := by decide +kernel
theorem dX0_init_36 : decode cX0_init 36 = .ok (.iconst 0, 1) := by decide +kernel
theorem dX0_init_37 : decode cX0_init 37 = .ok (.putfield 31, 3) := by decide +kernel
theorem dX0_init_40 : decode cX0_init 40 = .ok (.return_, 1) := by decide +kernel
theorem dX0_forgetWays_0 : decode cX0_forgetWays 0 = .ok (.aload_n 0, 1) := by decide +kernel
theorem dX0_forgetWays_1 : decode cX0_forgetWays 1 = .ok (.getfield 12, 3) := by decide +kernel
theorem dX0_forgetWays_4 : decode cX0_forgetWays 4 = .ok (.invokevirtual 34, 3) := by decide +kernel
theorem dX0_forgetWays_7 : decode cX0_forgetWays 7 = .ok (.return_, 1) := by decide +kernel
theorem dX0_find_0 : decode cX0_find 0 = .ok (.aload_n 0, 1) := by decide +kernel
theorem dX0_find_1 : decode cX0_find 1 = .ok (.getfield 12, 3) := by decide +kernel
theorem dX0_find_4 : decode cX0_find 4 = .ok (.aload_n 1, 1) := by decide +kernel
theorem dX0_find_5 : decode cX0_find 5 = .ok (.iload_n 2, 1) := by decide +kernel
theorem dX0_find_6 : decode cX0_find 6 = .ok (.iload_n 3, 1) := by decide +kernel
theorem dX0_find_7 : decode cX0_find 7 = .ok (.invokevirtual 37, 3) := by decide +kernel
theorem dX0_find_10 : decode cX0_find 10 = .ok (.istore 6, 2) := by decide +kernel
theorem dX0_find_12 : decode cX0_find 12 = .ok (.iload 5, 2) := by decide +kernel
theorem dX0_find_14 : decode cX0_find 14 = .ok (.ifCond .eq 9, 3) := by decide +kernel
theorem dX0_find_17 : decode cX0_find 17 = .ok (.iload 5, 2) := by decide +kernel
theorem dX0_find_19 : decode cX0_find 19 = .ok (.iconst 3, 1) := by decide +kernel
theorem dX0_find_20 : decode cX0_find 20 = .ok (.if_icmp .ne 7, 3) := by decide +kernel
theorem dX0_find_23 : decode cX0_find 23 = .ok (.iconst 1, 1) := by decide +kernel
theorem dX0_find_24 : decode cX0_find 24 = .ok (.goto 4, 3) := by decide +kernel
theorem dX0_find_27 : decode cX0_find 27 = .ok (.iconst 0, 1) := by decide +kernel
theorem dX0_find_28 : decode cX0_find 28 = .ok (.istore 7, 2) := by decide +kernel
theorem dX0_find_30 : decode cX0_find 30 = .ok (.aload_n 0, 1) := by decide +kernel
theorem dX0_find_31 : decode cX0_find 31 = .ok (.iconst (-1), 1) := by decide +kernel
theorem dX0_find_32 : decode cX0_find 32 = .ok (.putfield 18, 3) := by decide +kernel
theorem dX0_find_35 : decode cX0_find 35 = .ok (.iconst 0, 1) := by decide +kernel
theorem dX0_find_36 : decode cX0_find 36 = .ok (.istore 8, 2) := by decide +kernel
theorem dX0_find_38 : decode cX0_find 38 = .ok (.iload 8, 2) := by decide +kernel
theorem dX0_find_40 : decode cX0_find 40 = .ok (.aload_n 0, 1) := by decide +kernel
theorem dX0_find_41 : decode cX0_find 41 = .ok (.getfield 12, 3) := by decide +kernel
theorem dX0_find_44 : decode cX0_find 44 = .ok (.getfield 41, 3) := by decide +kernel
theorem dX0_find_47 : decode cX0_find 47 = .ok (.iload 6, 2) := by decide +kernel
theorem dX0_find_49 : decode cX0_find 49 = .ok (.iaload, 1) := by decide +kernel
theorem dX0_find_50 : decode cX0_find 50 = .ok (.if_icmp .ge 169, 3) := by decide +kernel
theorem dX0_find_53 : decode cX0_find 53 = .ok (.iload 7, 2) := by decide +kernel
theorem dX0_find_55 : decode cX0_find 55 = .ok (.ifCond .eq 10, 3) := by decide +kernel
theorem dX0_find_58 : decode cX0_find 58 = .ok (.aload_n 0, 1) := by decide +kernel
theorem dX0_find_59 : decode cX0_find 59 = .ok (.getfield 18, 3) := by decide +kernel
theorem dX0_find_62 : decode cX0_find 62 = .ok (.ifCond .ge 157, 3) := by decide +kernel
theorem dX0_find_65 : decode cX0_find 65 = .ok (.aload_n 0, 1) := by decide +kernel
theorem dX0_find_66 : decode cX0_find 66 = .ok (.getfield 12, 3) := by decide +kernel
theorem dX0_find_69 : decode cX0_find 69 = .ok (.getfield 45, 3) := by decide +kernel
theorem dX0_find_72 : decode cX0_find 72 = .ok (.iload 6, 2) := by decide +kernel
theorem dX0_find_74 : decode cX0_find 74 = .ok (.iconst 4, 1) := by decide +kernel
theorem dX0_find_75 : decode cX0_find 75 = .ok (.imul, 1) := by decide +kernel
theorem dX0_find_76 : decode cX0_find 76 = .ok (.iload 8, 2) := by decide +kernel
theorem dX0_find_78 : decode cX0_find 78 = .ok (.iadd, 1) := by decide +kernel
theorem dX0_find_79 : decode cX0_find 79 = .ok (.iaload, 1) := by decide +kernel
theorem dX0_find_80 : decode cX0_find 80 = .ok (.istore 9, 2) := by decide +kernel
theorem dX0_find_82 : decode cX0_find 82 = .ok (.aload_n 1, 1) := by decide +kernel
theorem dX0_find_83 : decode cX0_find 83 = .ok (.getfield 47, 3) := by decide +kernel
theorem dX0_find_86 : decode cX0_find 86 = .ok (.iload 4, 2) := by decide +kernel
theorem dX0_find_88 : decode cX0_find 88 = .ok (.aload_n 0, 1) := by decide +kernel
theorem dX0_find_89 : decode cX0_find 89 = .ok (.getfield 12, 3) := by decide +kernel
theorem dX0_find_92 : decode cX0_find 92 = .ok (.getfield 53, 3) := by decide +kernel
theorem dX0_find_95 : decode cX0_find 95 = .ok (.iload 6, 2) := by decide +kernel
theorem dX0_find_97 : decode cX0_find 97 = .ok (.iconst 4, 1) := by decide +kernel
theorem dX0_find_98 : decode cX0_find 98 = .ok (.imul, 1) := by decide +kernel
theorem dX0_find_99 : decode cX0_find 99 = .ok (.iload 8, 2) := by decide +kernel
theorem dX0_find_101 : decode cX0_find 101 = .ok (.iadd, 1) := by decide +kernel
theorem dX0_find_102 : decode cX0_find 102 = .ok (.iaload, 1) := by decide +kernel
theorem dX0_find_103 : decode cX0_find 103 = .ok (.invokevirtual 56, 3) := by decide +kernel
theorem dX0_find_106 : decode cX0_find 106 = .ok (.istore 10, 2) := by decide +kernel
theorem dX0_find_108 : decode cX0_find 108 = .ok (.iload 10, 2) := by decide +kernel
theorem dX0_find_110 : decode cX0_find 110 = .ok (.ifCond .le 15, 3) := by decide +kernel
theorem dX0_find_113 : decode cX0_find 113 = .ok (.aload_n 1, 1) := by decide +kernel
theorem dX0_find_114 : decode cX0_find 114 = .ok (.iload 9, 2) := by decide +kernel
theorem dX0_find_116 : decode cX0_find 116 = .ok (.iload 10, 2) := by decide +kernel
theorem dX0_find_118 : decode cX0_find 118 = .ok (.iconst (-1), 1) := by decide +kernel
theorem dX0_find_119 : decode cX0_find 119 = .ok (.invokevirtual 62, 3) := by decide +kernel
theorem dX0_find_122 : decode cX0_find 122 = .ok (.goto 4, 3) := by decide +kernel
theorem dX0_find_125 : decode cX0_find 125 = .ok (.lconst 0, 1) := by decide +kernel
theorem dX0_find_126 : decode cX0_find 126 = .ok (.lstore 11, 2) := by decide +kernel
theorem dX0_find_128 : decode cX0_find 128 = .ok (.lload 11, 2) := by decide +kernel
theorem dX0_find_130 : decode cX0_find 130 = .ok (.lconst 0, 1) := by decide +kernel
theorem dX0_find_131 : decode cX0_find 131 = .ok (.lcmp, 1) := by decide +kernel
theorem dX0_find_132 : decode cX0_find 132 = .ok (.ifCond .eq 25, 3) := by decide +kernel
theorem dX0_find_135 : decode cX0_find 135 = .ok (.iload 5, 2) := by decide +kernel
theorem dX0_find_137 : decode cX0_find 137 = .ok (.iconst 2, 1) := by decide +kernel
theorem dX0_find_138 : decode cX0_find 138 = .ok (.if_icmp .ne 19, 3) := by decide +kernel
theorem dX0_find_141 : decode cX0_find 141 = .ok (.aload_n 0, 1) := by decide +kernel
theorem dX0_find_142 : decode cX0_find 142 = .ok (.aload_n 1, 1) := by decide +kernel
theorem dX0_find_143 : decode cX0_find 143 = .ok (.iload 8, 2) := by decide +kernel
theorem dX0_find_145 : decode cX0_find 145 = .ok (.iload 9, 2) := by decide +kernel
theorem dX0_find_147 : decode cX0_find 147 = .ok (.iload 10, 2) := by decide +kernel
theorem dX0_find_149 : decode cX0_find 149 = .ok (.lload 11, 2) := by decide +kernel
theorem dX0_find_151 : decode cX0_find 151 = .ok (.invokevirtual 66, 3) := by decide +kernel
theorem dX0_find_154 : decode cX0_find 154 = .ok (.goto 59, 3) := by decide +kernel
theorem dX0_find_157 : decode cX0_find 157 = .ok (.lload 11, 2) := by decide +kernel
theorem dX0_find_159 : decode cX0_find 159 = .ok (.lconst 0, 1) := by decide +kernel
theorem dX0_find_160 : decode cX0_find 160 = .ok (.lcmp, 1) := by decide +kernel
theorem dX0_find_161 : decode cX0_find 161 = .ok (.ifCond .eq 52, 3) := by decide +kernel
theorem dX0_find_164 : decode cX0_find 164 = .ok (.iload 5, 2) := by decide +kernel
theorem dX0_find_166 : decode cX0_find 166 = .ok (.iconst 3, 1) := by decide +kernel
theorem dX0_find_167 : decode cX0_find 167 = .ok (.if_icmp .ne 11, 3) := by decide +kernel
theorem dX0_find_170 : decode cX0_find 170 = .ok (.lload 11, 2) := by decide +kernel
theorem dX0_find_172 : decode cX0_find 172 = .ok (.invokestatic 70, 3) := by decide +kernel
theorem dX0_find_175 : decode cX0_find 175 = .ok (.goto 8, 3) := by decide +kernel
theorem dX0_find_178 : decode cX0_find 178 = .ok (.lload 11, 2) := by decide +kernel
theorem dX0_find_180 : decode cX0_find 180 = .ok (.invokestatic 74, 3) := by decide +kernel
theorem dX0_find_183 : decode cX0_find 183 = .ok (.istore 13, 2) := by decide +kernel
theorem dX0_find_185 : decode cX0_find 185 = .ok (.aload_n 0, 1) := by decide +kernel
theorem dX0_find_186 : decode cX0_find 186 = .ok (.getfield 18, 3) := by decide +kernel
theorem dX0_find_189 : decode cX0_find 189 = .ok (.ifCond .lt 12, 3) := by decide +kernel
theorem dX0_find_192 : decode cX0_find 192 = .ok (.iload 13, 2) := by decide +kernel
theorem dX0_find_194 : decode cX0_find 194 = .ok (.aload_n 0, 1) := by decide +kernel
theorem dX0_find_195 : decode cX0_find 195 = .ok (.getfield 25, 3) := by decide +kernel
theorem dX0_find_198 : decode cX0_find 198 = .ok (.if_icmp .ge 15, 3) := by decide +kernel
theorem dX0_find_201 : decode cX0_find 201 = .ok (.aload_n 0, 1) := by decide +kernel
theorem dX0_find_202 : decode cX0_find 202 = .ok (.iload 8, 2) := by decide +kernel
theorem dX0_find_204 : decode cX0_find 204 = .ok (.iload 9, 2) := by decide +kernel
theorem dX0_find_206 : decode cX0_find 206 = .ok (.iload 13, 2) := by decide +kernel
theorem dX0_find_208 : decode cX0_find 208 = .ok (.iload 10, 2) := by decide +kernel
theorem dX0_find_210 : decode cX0_find 210 = .ok (.invokevirtual 77, 3) := by decide +kernel
theorem dX0_find_213 : decode cX0_find 213 = .ok (.iinc 8 1, 3) := by decide +kernel
theorem dX0_find_216 : decode cX0_find 216 = .ok (.goto (-178), 3) := by decide +kernel
theorem dX0_find_219 : decode cX0_find 219 = .ok (.aload_n 0, 1) := by decide +kernel
theorem dX0_find_220 : decode cX0_find 220 = .ok (.getfield 18, 3) := by decide +kernel
theorem dX0_find_223 : decode cX0_find 223 = .ok (.ifCond .lt 7, 3) := by decide +kernel
theorem dX0_find_226 : decode cX0_find 226 = .ok (.iconst 1, 1) := by decide +kernel
theorem dX0_find_227 : decode cX0_find 227 = .ok (.goto 4, 3) := by decide +kernel
theorem dX0_find_230 : decode cX0_find 230 = .ok (.iconst 0, 1) := by decide +kernel
theorem dX0_find_231 : decode cX0_find 231 = .ok (.ireturn, 1) := by decide +kernel
theorem dX0_weighRows_0 : decode cX0_weighRows 0 = .ok (.aload_n 1, 1) := by decide +kernel
theorem dX0_weighRows_1 : decode cX0_weighRows 1 = .ok (.iload_n 3, 1) := by decide +kernel
theorem dX0_weighRows_2 : decode cX0_weighRows 2 = .ok (.iconst (-1), 1) := by decide +kernel
theorem dX0_weighRows_3 : decode cX0_weighRows 3 = .ok (.invokevirtual 81, 3) := by decide +kernel
theorem dX0_weighRows_6 : decode cX0_weighRows 6 = .ok (.lstore 7, 2) := by decide +kernel
theorem dX0_weighRows_8 : decode cX0_weighRows 8 = .ok (.iconst 0, 1) := by decide +kernel
theorem dX0_weighRows_9 : decode cX0_weighRows 9 = .ok (.istore 9, 2) := by decide +kernel
theorem dX0_weighRows_11 : decode cX0_weighRows 11 = .ok (.iconst 0, 1) := by decide +kernel
theorem dX0_weighRows_12 : decode cX0_weighRows 12 = .ok (.istore 10, 2) := by decide +kernel
theorem dX0_weighRows_14 : decode cX0_weighRows 14 = .ok (.iload 10, 2) := by decide +kernel
theorem dX0_weighRows_16 : decode cX0_weighRows 16 = .ok (.aload_n 1, 1) := by decide +kernel
theorem dX0_weighRows_17 : decode cX0_weighRows 17 = .ok (.getfield 47, 3) := by decide +kernel
theorem dX0_weighRows_20 : decode cX0_weighRows 20 = .ok (.getfield 85, 3) := by decide +kernel
theorem dX0_weighRows_23 : decode cX0_weighRows 23 = .ok (.if_icmp .gt 99, 3) := by decide +kernel
theorem dX0_weighRows_26 : decode cX0_weighRows 26 = .ok (.iload 10, 2) := by decide +kernel
theorem dX0_weighRows_28 : decode cX0_weighRows 28 = .ok (.aload_n 1, 1) := by decide +kernel
theorem dX0_weighRows_29 : decode cX0_weighRows 29 = .ok (.getfield 47, 3) := by decide +kernel
theorem dX0_weighRows_32 : decode cX0_weighRows 32 = .ok (.getfield 85, 3) := by decide +kernel
theorem dX0_weighRows_35 : decode cX0_weighRows 35 = .ok (.if_icmp .eq 15, 3) := by decide +kernel
theorem dX0_weighRows_38 : decode cX0_weighRows 38 = .ok (.lload 7, 2) := by decide +kernel
theorem dX0_weighRows_40 : decode cX0_weighRows 40 = .ok (.iload 10, 2) := by decide +kernel
theorem dX0_weighRows_42 : decode cX0_weighRows 42 = .ok (.lushr, 1) := by decide +kernel
theorem dX0_weighRows_43 : decode cX0_weighRows 43 = .ok (.lconst 1, 1) := by decide +kernel
theorem dX0_weighRows_44 : decode cX0_weighRows 44 = .ok (.land, 1) := by decide +kernel
theorem dX0_weighRows_45 : decode cX0_weighRows 45 = .ok (.lconst 0, 1) := by decide +kernel
theorem dX0_weighRows_46 : decode cX0_weighRows 46 = .ok (.lcmp, 1) := by decide +kernel
theorem dX0_weighRows_47 : decode cX0_weighRows 47 = .ok (.ifCond .eq 69, 3) := by decide +kernel
theorem dX0_weighRows_50 : decode cX0_weighRows 50 = .ok (.lload 5, 2) := by decide +kernel
theorem dX0_weighRows_52 : decode cX0_weighRows 52 = .ok (.iload 9, 2) := by decide +kernel
theorem dX0_weighRows_54 : decode cX0_weighRows 54 = .ok (.iload 10, 2) := by decide +kernel
theorem dX0_weighRows_56 : decode cX0_weighRows 56 = .ok (.invokestatic 88, 3) := by decide +kernel
theorem dX0_weighRows_59 : decode cX0_weighRows 59 = .ok (.land, 1) := by decide +kernel
theorem dX0_weighRows_60 : decode cX0_weighRows 60 = .ok (.lstore 11, 2) := by decide +kernel
theorem dX0_weighRows_62 : decode cX0_weighRows 62 = .ok (.lload 11, 2) := by decide +kernel
theorem dX0_weighRows_64 : decode cX0_weighRows 64 = .ok (.lconst 0, 1) := by decide +kernel
theorem dX0_weighRows_65 : decode cX0_weighRows 65 = .ok (.lcmp, 1) := by decide +kernel
theorem dX0_weighRows_66 : decode cX0_weighRows 66 = .ok (.ifCond .eq 44, 3) := by decide +kernel
theorem dX0_weighRows_69 : decode cX0_weighRows 69 = .ok (.aload_n 0, 1) := by decide +kernel
theorem dX0_weighRows_70 : decode cX0_weighRows 70 = .ok (.getfield 18, 3) := by decide +kernel
theorem dX0_weighRows_73 : decode cX0_weighRows 73 = .ok (.ifCond .lt 15, 3) := by decide +kernel
theorem dX0_weighRows_76 : decode cX0_weighRows 76 = .ok (.iload 10, 2) := by decide +kernel
theorem dX0_weighRows_78 : decode cX0_weighRows 78 = .ok (.iload 9, 2) := by decide +kernel
theorem dX0_weighRows_80 : decode cX0_weighRows 80 = .ok (.isub, 1) := by decide +kernel
theorem dX0_weighRows_81 : decode cX0_weighRows 81 = .ok (.aload_n 0, 1) := by decide +kernel
theorem dX0_weighRows_82 : decode cX0_weighRows 82 = .ok (.getfield 31, 3) := by decide +kernel
theorem dX0_weighRows_85 : decode cX0_weighRows 85 = .ok (.if_icmp .ge 25, 3) := by decide +kernel
theorem dX0_weighRows_88 : decode cX0_weighRows 88 = .ok (.aload_n 0, 1) := by decide +kernel
theorem dX0_weighRows_89 : decode cX0_weighRows 89 = .ok (.iload_n 2, 1) := by decide +kernel
theorem dX0_weighRows_90 : decode cX0_weighRows 90 = .ok (.iload_n 3, 1) := by decide +kernel
theorem dX0_weighRows_91 : decode cX0_weighRows 91 = .ok (.lload 11, 2) := by decide +kernel
theorem dX0_weighRows_93 : decode cX0_weighRows 93 = .ok (.invokestatic 74, 3) := by decide +kernel
theorem dX0_weighRows_96 : decode cX0_weighRows 96 = .ok (.iload 4, 2) := by decide +kernel
theorem dX0_weighRows_98 : decode cX0_weighRows 98 = .ok (.invokevirtual 77, 3) := by decide +kernel
theorem dX0_weighRows_101 : decode cX0_weighRows 101 = .ok (.aload_n 0, 1) := by decide +kernel
theorem dX0_weighRows_102 : decode cX0_weighRows 102 = .ok (.iload 10, 2) := by decide +kernel
theorem dX0_weighRows_104 : decode cX0_weighRows 104 = .ok (.iload 9, 2) := by decide +kernel
theorem dX0_weighRows_106 : decode cX0_weighRows 106 = .ok (.isub, 1) := by decide +kernel
theorem dX0_weighRows_107 : decode cX0_weighRows 107 = .ok (.putfield 31, 3) := by decide +kernel
theorem dX0_weighRows_110 : decode cX0_weighRows 110 = .ok (.iload 10, 2) := by decide +kernel
theorem dX0_weighRows_112 : decode cX0_weighRows 112 = .ok (.iconst 1, 1) := by decide +kernel
theorem dX0_weighRows_113 : decode cX0_weighRows 113 = .ok (.iadd, 1) := by decide +kernel
theorem dX0_weighRows_114 : decode cX0_weighRows 114 = .ok (.istore 9, 2) := by decide +kernel
theorem dX0_weighRows_116 : decode cX0_weighRows 116 = .ok (.iinc 10 1, 3) := by decide +kernel
theorem dX0_weighRows_119 : decode cX0_weighRows 119 = .ok (.goto (-105), 3) := by decide +kernel
theorem dX0_weighRows_122 : decode cX0_weighRows 122 = .ok (.return_, 1) := by decide +kernel
theorem dX0_choose_0 : decode cX0_choose 0 = .ok (.aload_n 0, 1) := by decide +kernel
theorem dX0_choose_1 : decode cX0_choose 1 = .ok (.iload_n 1, 1) := by decide +kernel
theorem dX0_choose_2 : decode cX0_choose 2 = .ok (.putfield 18, 3) := by decide +kernel
theorem dX0_choose_5 : decode cX0_choose 5 = .ok (.aload_n 0, 1) := by decide +kernel
theorem dX0_choose_6 : decode cX0_choose 6 = .ok (.iload_n 2, 1) := by decide +kernel
theorem dX0_choose_7 : decode cX0_choose 7 = .ok (.putfield 22, 3) := by decide +kernel
theorem dX0_choose_10 : decode cX0_choose 10 = .ok (.aload_n 0, 1) := by decide +kernel
theorem dX0_choose_11 : decode cX0_choose 11 = .ok (.iload_n 3, 1) := by decide +kernel
theorem dX0_choose_12 : decode cX0_choose 12 = .ok (.putfield 25, 3) := by decide +kernel
theorem dX0_choose_15 : decode cX0_choose 15 = .ok (.aload_n 0, 1) := by decide +kernel
theorem dX0_choose_16 : decode cX0_choose 16 = .ok (.iload 4, 2) := by decide +kernel
theorem dX0_choose_18 : decode cX0_choose 18 = .ok (.putfield 28, 3) := by decide +kernel
theorem dX0_choose_21 : decode cX0_choose 21 = .ok (.return_, 1) := by decide +kernel
theorem dX1_init_0 : decode cX1_init 0 = .ok (.aload_n 0, 1) := by decide +kernel
theorem dX1_init_1 : decode cX1_init 1 = .ok (.invokespecial 3, 3) := by decide +kernel
theorem dX1_init_4 : decode cX1_init 4 = .ok (.aload_n 0, 1) := by decide +kernel
theorem dX1_init_5 : decode cX1_init 5 = .ok (.iconst 4, 1) := by decide +kernel
theorem dX1_init_6 : decode cX1_init 6 = .ok (.newarray .int, 2) := by decide +kernel
theorem dX1_init_8 : decode cX1_init 8 = .ok (.putfield 9, 3) := by decide +kernel
theorem dX1_init_11 : decode cX1_init 11 = .ok (.aload_n 0, 1) := by decide +kernel
theorem dX1_init_12 : decode cX1_init 12 = .ok (.bipush 14, 2) := by decide +kernel
theorem dX1_init_14 : decode cX1_init 14 = .ok (.newarray .int, 2) := by decide +kernel
theorem dX1_init_16 : decode cX1_init 16 = .ok (.putfield 15, 3) := by decide +kernel
theorem dX1_init_19 : decode cX1_init 19 = .ok (.aload_n 0, 1) := by decide +kernel
theorem dX1_init_20 : decode cX1_init 20 = .ok (.bipush 14, 2) := by decide +kernel
theorem dX1_init_22 : decode cX1_init 22 = .ok (.newarray .int, 2) := by decide +kernel
theorem dX1_init_24 : decode cX1_init 24 = .ok (.putfield 18, 3) := by decide +kernel
theorem dX1_init_27 : decode cX1_init 27 = .ok (.aload_n 0, 1) := by decide +kernel
theorem dX1_init_28 : decode cX1_init 28 = .ok (.bipush 14, 2) := by decide +kernel
theorem dX1_init_30 : decode cX1_init 30 = .ok (.newarray .int, 2) := by decide +kernel
theorem dX1_init_32 : decode cX1_init 32 = .ok (.putfield 21, 3) := by decide +kernel
theorem dX1_init_35 : decode cX1_init 35 = .ok (.aload_n 0, 1) := by decide +kernel
theorem dX1_init_36 : decode cX1_init 36 = .ok (.bipush 64, 2) := by decide +kernel
theorem dX1_init_38 : decode cX1_init 38 = .ok (.newarray .int, 2) := by decide +kernel
theorem dX1_init_40 : decode cX1_init 40 = .ok (.putfield 24, 3) := by decide +kernel
theorem dX1_init_43 : decode cX1_init 43 = .ok (.aload_n 0, 1) := by decide +kernel
theorem dX1_init_44 : decode cX1_init 44 = .ok (.invokevirtual 27, 3) := by decide +kernel
theorem dX1_init_47 : decode cX1_init 47 = .ok (.return_, 1) := by decide +kernel
theorem dX1_begin_0 : decode cX1_begin 0 = .ok (.aload_n 0, 1) := by decide +kernel
theorem dX1_begin_1 : decode cX1_begin 1 = .ok (.iconst 2, 1) := by decide +kernel
theorem dX1_begin_2 : decode cX1_begin 2 = .ok (.putfield 30, 3) := by decide +kernel
theorem dX1_begin_5 : decode cX1_begin 5 = .ok (.aload_n 0, 1) := by decide +kernel
theorem dX1_begin_6 : decode cX1_begin 6 = .ok (.bipush 40, 2) := by decide +kernel
theorem dX1_begin_8 : decode cX1_begin 8 = .ok (.putfield 34, 3) := by decide +kernel
theorem dX1_begin_11 : decode cX1_begin 11 = .ok (.aload_n 0, 1) := by decide +kernel
theorem dX1_begin_12 : decode cX1_begin 12 = .ok (.iconst 1, 1) := by decide +kernel
theorem dX1_begin_13 : decode cX1_begin 13 = .ok (.putfield 37, 3) := by decide +kernel
theorem dX1_begin_16 : decode cX1_begin 16 = .ok (.aload_n 0, 1) := by decide +kernel
theorem dX1_begin_17 : decode cX1_begin 17 = .ok (.iconst 0, 1) := by decide +kernel
theorem dX1_begin_18 : decode cX1_begin 18 = .ok (.putfield 40, 3) := by decide +kernel
theorem dX1_begin_21 : decode cX1_begin 21 = .ok (.aload_n 0, 1) := by decide +kernel
theorem dX1_begin_22 : decode cX1_begin 22 = .ok (.iconst 0, 1) := by decide +kernel
theorem dX1_begin_23 : decode cX1_begin 23 = .ok (.putfield 43, 3) := by decide +kernel
theorem dX1_begin_26 : decode cX1_begin 26 = .ok (.aload_n 0, 1) := by decide +kernel
theorem dX1_begin_27 : decode cX1_begin 27 = .ok (.getfield 9, 3) := by decide +kernel
theorem dX1_begin_30 : decode cX1_begin 30 = .ok (.iconst 0, 1) := by decide +kernel
theorem dX1_begin_31 : decode cX1_begin 31 = .ok (.sipush 200, 3) := by decide +kernel
theorem dX1_begin_34 : decode cX1_begin 34 = .ok (.iastore, 1) := by decide +kernel
theorem dX1_begin_35 : decode cX1_begin 35 = .ok (.aload_n 0, 1) := by decide +kernel
theorem dX1_begin_36 : decode cX1_begin 36 = .ok (.getfield 9, 3) := by decide +kernel
theorem dX1_begin_39 : decode cX1_begin 39 = .ok (.iconst 1, 1) := by decide +kernel
theorem dX1_begin_40 : decode cX1_begin 40 = .ok (.bipush 120, 2) := by decide +kernel
theorem dX1_begin_42 : decode cX1_begin 42 = .ok (.iastore, 1) := by decide +kernel
theorem dX1_begin_43 : decode cX1_begin 43 = .ok (.aload_n 0, 1) := by decide +kernel
theorem dX1_begin_44 : decode cX1_begin 44 = .ok (.getfield 9, 3) := by decide +kernel
theorem dX1_begin_47 : decode cX1_begin 47 = .ok (.iconst 2, 1) := by decide +kernel
theorem dX1_begin_48 : decode cX1_begin 48 = .ok (.bipush 80, 2) := by decide +kernel
theorem dX1_begin_50 : decode cX1_begin 50 = .ok (.iastore, 1) := by decide +kernel
theorem dX1_begin_51 : decode cX1_begin 51 = .ok (.aload_n 0, 1) := by decide +kernel
theorem dX1_begin_52 : decode cX1_begin 52 = .ok (.getfield 9, 3) := by decide +kernel
theorem dX1_begin_55 : decode cX1_begin 55 = .ok (.iconst 3, 1) := by decide +kernel
theorem dX1_begin_56 : decode cX1_begin 56 = .ok (.bipush 40, 2) := by decide +kernel
theorem dX1_begin_58 : decode cX1_begin 58 = .ok (.iastore, 1) := by decide +kernel
theorem dX1_begin_59 : decode cX1_begin 59 = .ok (.iconst 0, 1) := by decide +kernel
theorem dX1_begin_60 : decode cX1_begin 60 = .ok (.istore_n 1, 1) := by decide +kernel
theorem dX1_begin_61 : decode cX1_begin 61 = .ok (.iload_n 1, 1) := by decide +kernel
theorem dX1_begin_62 : decode cX1_begin 62 = .ok (.aload_n 0, 1) := by decide +kernel
theorem dX1_begin_63 : decode cX1_begin 63 = .ok (.getfield 24, 3) := by decide +kernel
theorem dX1_begin_66 : decode cX1_begin 66 = .ok (.arraylength, 1) := by decide +kernel
theorem dX1_begin_67 : decode cX1_begin 67 = .ok (.if_icmp .ge 16, 3) := by decide +kernel
theorem dX1_begin_70 : decode cX1_begin 70 = .ok (.aload_n 0, 1) := by decide +kernel
theorem dX1_begin_71 : decode cX1_begin 71 = .ok (.getfield 24, 3) := by decide +kernel
theorem dX1_begin_74 : decode cX1_begin 74 = .ok (.iload_n 1, 1) := by decide +kernel
theorem dX1_begin_75 : decode cX1_begin 75 = .ok (.iconst (-1), 1) := by decide +kernel
theorem dX1_begin_76 : decode cX1_begin 76 = .ok (.iastore, 1) := by decide +kernel
theorem dX1_begin_77 : decode cX1_begin 77 = .ok (.iinc 1 1, 3) := by decide +kernel
theorem dX1_begin_80 : decode cX1_begin 80 = .ok (.goto (-19), 3) := by decide +kernel
theorem dX1_begin_83 : decode cX1_begin 83 = .ok (.return_, 1) := by decide +kernel
theorem dX1_copy_0 : decode cX1_copy 0 = .ok (.aload_n 0, 1) := by decide +kernel
theorem dX1_copy_1 : decode cX1_copy 1 = .ok (.aload_n 1, 1) := by decide +kernel
theorem dX1_copy_2 : decode cX1_copy 2 = .ok (.getfield 30, 3) := by decide +kernel
theorem dX1_copy_5 : decode cX1_copy 5 = .ok (.putfield 30, 3) := by decide +kernel
theorem dX1_copy_8 : decode cX1_copy 8 = .ok (.aload_n 0, 1) := by decide +kernel
theorem dX1_copy_9 : decode cX1_copy 9 = .ok (.aload_n 1, 1) := by decide +kernel
theorem dX1_copy_10 : decode cX1_copy 10 = .ok (.getfield 34, 3) := by decide +kernel
theorem dX1_copy_13 : decode cX1_copy 13 = .ok (.putfield 34, 3) := by decide +kernel
theorem dX1_copy_16 : decode cX1_copy 16 = .ok (.aload_n 0, 1) := by decide +kernel
theorem dX1_copy_17 : decode cX1_copy 17 = .ok (.aload_n 1, 1) := by decide +kernel
theorem dX1_copy_18 : decode cX1_copy 18 = .ok (.getfield 37, 3) := by decide +kernel
theorem dX1_copy_21 : decode cX1_copy 21 = .ok (.putfield 37, 3) := by decide +kernel
theorem dX1_copy_24 : decode cX1_copy 24 = .ok (.aload_n 0, 1) := by decide +kernel
theorem dX1_copy_25 : decode cX1_copy 25 = .ok (.aload_n 1, 1) := by decide +kernel
theorem dX1_copy_26 : decode cX1_copy 26 = .ok (.getfield 40, 3) := by decide +kernel
theorem dX1_copy_29 : decode cX1_copy 29 = .ok (.putfield 40, 3) := by decide +kernel
theorem dX1_copy_32 : decode cX1_copy 32 = .ok (.aload_n 0, 1) := by decide +kernel
theorem dX1_copy_33 : decode cX1_copy 33 = .ok (.aload_n 1, 1) := by decide +kernel
theorem dX1_copy_34 : decode cX1_copy 34 = .ok (.getfield 43, 3) := by decide +kernel
theorem dX1_copy_37 : decode cX1_copy 37 = .ok (.putfield 43, 3) := by decide +kernel
theorem dX1_copy_40 : decode cX1_copy 40 = .ok (.aload_n 1, 1) := by decide +kernel
theorem dX1_copy_41 : decode cX1_copy 41 = .ok (.getfield 9, 3) := by decide +kernel
theorem dX1_copy_44 : decode cX1_copy 44 = .ok (.iconst 0, 1) := by decide +kernel
theorem dX1_copy_45 : decode cX1_copy 45 = .ok (.aload_n 0, 1) := by decide +kernel
theorem dX1_copy_46 : decode cX1_copy 46 = .ok (.getfield 9, 3) := by decide +kernel
theorem dX1_copy_49 : decode cX1_copy 49 = .ok (.iconst 0, 1) := by decide +kernel
theorem dX1_copy_50 : decode cX1_copy 50 = .ok (.iconst 4, 1) := by decide +kernel
theorem dX1_copy_51 : decode cX1_copy 51 = .ok (.invokestatic 46, 3) := by decide +kernel
theorem dX1_copy_54 : decode cX1_copy 54 = .ok (.aload_n 1, 1) := by decide +kernel
theorem dX1_copy_55 : decode cX1_copy 55 = .ok (.getfield 15, 3) := by decide +kernel
theorem dX1_copy_58 : decode cX1_copy 58 = .ok (.iconst 0, 1) := by decide +kernel
theorem dX1_copy_59 : decode cX1_copy 59 = .ok (.aload_n 0, 1) := by decide +kernel
theorem dX1_copy_60 : decode cX1_copy 60 = .ok (.getfield 15, 3) := by decide +kernel
theorem dX1_copy_63 : decode cX1_copy 63 = .ok (.iconst 0, 1) := by decide +kernel
theorem dX1_copy_64 : decode cX1_copy 64 = .ok (.bipush 14, 2) := by decide +kernel
theorem dX1_copy_66 : decode cX1_copy 66 = .ok (.invokestatic 46, 3) := by decide +kernel
theorem dX1_copy_69 : decode cX1_copy 69 = .ok (.aload_n 1, 1) := by decide +kernel
theorem dX1_copy_70 : decode cX1_copy 70 = .ok (.getfield 18, 3) := by decide +kernel
theorem dX1_copy_73 : decode cX1_copy 73 = .ok (.iconst 0, 1) := by decide +kernel
theorem dX1_copy_74 : decode cX1_copy 74 = .ok (.aload_n 0, 1) := by decide +kernel
theorem dX1_copy_75 : decode cX1_copy 75 = .ok (.getfield 18, 3) := by decide +kernel
theorem dX1_copy_78 : decode cX1_copy 78 = .ok (.iconst 0, 1) := by decide +kernel
theorem dX1_copy_79 : decode cX1_copy 79 = .ok (.bipush 14, 2) := by decide +kernel
theorem dX1_copy_81 : decode cX1_copy 81 = .ok (.invokestatic 46, 3) := by decide +kernel
theorem dX1_copy_84 : decode cX1_copy 84 = .ok (.aload_n 1, 1) := by decide +kernel
theorem dX1_copy_85 : decode cX1_copy 85 = .ok (.getfield 21, 3) := by decide +kernel
theorem dX1_copy_88 : decode cX1_copy 88 = .ok (.iconst 0, 1) := by decide +kernel
theorem dX1_copy_89 : decode cX1_copy 89 = .ok (.aload_n 0, 1) := by decide +kernel
theorem dX1_copy_90 : decode cX1_copy 90 = .ok (.getfield 21, 3) := by decide +kernel
theorem dX1_copy_93 : decode cX1_copy 93 = .ok (.iconst 0, 1) := by decide +kernel
theorem dX1_copy_94 : decode cX1_copy 94 = .ok (.bipush 14, 2) := by decide +kernel
theorem dX1_copy_96 : decode cX1_copy 96 = .ok (.invokestatic 46, 3) := by decide +kernel
theorem dX1_copy_99 : decode cX1_copy 99 = .ok (.aload_n 1, 1) := by decide +kernel
theorem dX1_copy_100 : decode cX1_copy 100 = .ok (.getfield 24, 3) := by decide +kernel
theorem dX1_copy_103 : decode cX1_copy 103 = .ok (.iconst 0, 1) := by decide +kernel
theorem dX1_copy_104 : decode cX1_copy 104 = .ok (.aload_n 0, 1) := by decide +kernel
theorem dX1_copy_105 : decode cX1_copy 105 = .ok (.getfield 24, 3) := by decide +kernel
theorem dX1_copy_108 : decode cX1_copy 108 = .ok (.iconst 0, 1) := by decide +kernel
theorem dX1_copy_109 : decode cX1_copy 109 = .ok (.bipush 64, 2) := by decide +kernel
theorem dX1_copy_111 : decode cX1_copy 111 = .ok (.invokestatic 46, 3) := by decide +kernel
theorem dX1_copy_114 : decode cX1_copy 114 = .ok (.return_, 1) := by decide +kernel
theorem dX1_join_0 : decode cX1_join 0 = .ok (.aload_n 0, 1) := by decide +kernel
theorem dX1_join_1 : decode cX1_join 1 = .ok (.getfield 40, 3) := by decide +kernel
theorem dX1_join_4 : decode cX1_join 4 = .ok (.bipush 14, 2) := by decide +kernel
theorem dX1_join_6 : decode cX1_join 6 = .ok (.if_icmp .lt 4, 3) := by decide +kernel
theorem dX1_join_9 : decode cX1_join 9 = .ok (.return_, 1) := by decide +kernel
theorem dX1_join_10 : decode cX1_join 10 = .ok (.aload_n 0, 1) := by decide +kernel
theorem dX1_join_11 : decode cX1_join 11 = .ok (.getfield 15, 3) := by decide +kernel
theorem dX1_join_14 : decode cX1_join 14 = .ok (.aload_n 0, 1) := by decide +kernel
theorem dX1_join_15 : decode cX1_join 15 = .ok (.getfield 40, 3) := by decide +kernel
theorem dX1_join_18 : decode cX1_join 18 = .ok (.iload_n 1, 1) := by decide +kernel
theorem dX1_join_19 : decode cX1_join 19 = .ok (.iastore, 1) := by decide +kernel
theorem dX1_join_20 : decode cX1_join 20 = .ok (.aload_n 0, 1) := by decide +kernel
theorem dX1_join_21 : decode cX1_join 21 = .ok (.getfield 18, 3) := by decide +kernel
theorem dX1_join_24 : decode cX1_join 24 = .ok (.aload_n 0, 1) := by decide +kernel
theorem dX1_join_25 : decode cX1_join 25 = .ok (.getfield 40, 3) := by decide +kernel
theorem dX1_join_28 : decode cX1_join 28 = .ok (.iload_n 2, 1) := by decide +kernel
theorem dX1_join_29 : decode cX1_join 29 = .ok (.iastore, 1) := by decide +kernel
theorem dX1_join_30 : decode cX1_join 30 = .ok (.aload_n 0, 1) := by decide +kernel
theorem dX1_join_31 : decode cX1_join 31 = .ok (.getfield 21, 3) := by decide +kernel
theorem dX1_join_34 : decode cX1_join 34 = .ok (.aload_n 0, 1) := by decide +kernel
theorem dX1_join_35 : decode cX1_join 35 = .ok (.getfield 40, 3) := by decide +kernel
theorem dX1_join_38 : decode cX1_join 38 = .ok (.iload_n 3, 1) := by decide +kernel
theorem dX1_join_39 : decode cX1_join 39 = .ok (.iastore, 1) := by decide +kernel
theorem dX1_join_40 : decode cX1_join 40 = .ok (.aload_n 0, 1) := by decide +kernel
theorem dX1_join_41 : decode cX1_join 41 = .ok (.getfield 24, 3) := by decide +kernel
theorem dX1_join_44 : decode cX1_join 44 = .ok (.iload_n 1, 1) := by decide +kernel
theorem dX1_join_45 : decode cX1_join 45 = .ok (.bipush 8, 2) := by decide +kernel
theorem dX1_join_47 : decode cX1_join 47 = .ok (.imul, 1) := by decide +kernel
theorem dX1_join_48 : decode cX1_join 48 = .ok (.iload_n 2, 1) := by decide +kernel
theorem dX1_join_49 : decode cX1_join 49 = .ok (.iadd, 1) := by decide +kernel
theorem dX1_join_50 : decode cX1_join 50 = .ok (.aload_n 0, 1) := by decide +kernel
theorem dX1_join_51 : decode cX1_join 51 = .ok (.getfield 40, 3) := by decide +kernel
theorem dX1_join_54 : decode cX1_join 54 = .ok (.iastore, 1) := by decide +kernel
theorem dX1_join_55 : decode cX1_join 55 = .ok (.aload_n 0, 1) := by decide +kernel
theorem dX1_join_56 : decode cX1_join 56 = .ok (.getfield 24, 3) := by decide +kernel
theorem dX1_join_59 : decode cX1_join 59 = .ok (.iload_n 2, 1) := by decide +kernel
theorem dX1_join_60 : decode cX1_join 60 = .ok (.bipush 8, 2) := by decide +kernel
theorem dX1_join_62 : decode cX1_join 62 = .ok (.imul, 1) := by decide +kernel
theorem dX1_join_63 : decode cX1_join 63 = .ok (.iload_n 1, 1) := by decide +kernel
theorem dX1_join_64 : decode cX1_join 64 = .ok (.iadd, 1) := by decide +kernel
theorem dX1_join_65 : decode cX1_join 65 = .ok (.aload_n 0, 1) := by decide +kernel
theorem dX1_join_66 : decode cX1_join 66 = .ok (.getfield 40, 3) := by decide +kernel
theorem dX1_join_69 : decode cX1_join 69 = .ok (.iastore, 1) := by decide +kernel
theorem dX1_join_70 : decode cX1_join 70 = .ok (.aload_n 0, 1) := by decide +kernel
theorem dX1_join_71 : decode cX1_join 71 = .ok (.dup, 1) := by decide +kernel
theorem dX1_join_72 : decode cX1_join 72 = .ok (.getfield 40, 3) := by decide +kernel
theorem dX1_join_75 : decode cX1_join 75 = .ok (.iconst 1, 1) := by decide +kernel
theorem dX1_join_76 : decode cX1_join 76 = .ok (.iadd, 1) := by decide +kernel
theorem dX1_join_77 : decode cX1_join 77 = .ok (.putfield 40, 3) := by decide +kernel
theorem dX1_join_80 : decode cX1_join 80 = .ok (.return_, 1) := by decide +kernel
theorem dX1_areJoined_0 : decode cX1_areJoined 0 = .ok (.aload_n 0, 1) := by decide +kernel
theorem dX1_areJoined_1 : decode cX1_areJoined 1 = .ok (.getfield 24, 3) := by decide +kernel
theorem dX1_areJoined_4 : decode cX1_areJoined 4 = .ok (.iload_n 1, 1) := by decide +kernel
theorem dX1_areJoined_5 : decode cX1_areJoined 5 = .ok (.bipush 8, 2) := by decide +kernel
theorem dX1_areJoined_7 : decode cX1_areJoined 7 = .ok (.imul, 1) := by decide +kernel
theorem dX1_areJoined_8 : decode cX1_areJoined 8 = .ok (.iload_n 2, 1) := by decide +kernel
theorem dX1_areJoined_9 : decode cX1_areJoined 9 = .ok (.iadd, 1) := by decide +kernel
theorem dX1_areJoined_10 : decode cX1_areJoined 10 = .ok (.iaload, 1) := by decide +kernel
theorem dX1_areJoined_11 : decode cX1_areJoined 11 = .ok (.ifCond .lt 7, 3) := by decide +kernel
theorem dX1_areJoined_14 : decode cX1_areJoined 14 = .ok (.iconst 1, 1) := by decide +kernel
theorem dX1_areJoined_15 : decode cX1_areJoined 15 = .ok (.goto 4, 3) := by decide +kernel
theorem dX1_areJoined_18 : decode cX1_areJoined 18 = .ok (.iconst 0, 1) := by decide +kernel
theorem dX1_areJoined_19 : decode cX1_areJoined 19 = .ok (.ireturn, 1) := by decide +kernel
theorem dX1_lengthOf_0 : decode cX1_lengthOf 0 = .ok (.iconst 0, 1) := by decide +kernel
theorem dX1_lengthOf_1 : decode cX1_lengthOf 1 = .ok (.istore_n 2, 1) := by decide +kernel
theorem dX1_lengthOf_2 : decode cX1_lengthOf 2 = .ok (.iconst 0, 1) := by decide +kernel
theorem dX1_lengthOf_3 : decode cX1_lengthOf 3 = .ok (.istore_n 3, 1) := by decide +kernel
theorem dX1_lengthOf_4 : decode cX1_lengthOf 4 = .ok (.iload_n 3, 1) := by decide +kernel
theorem dX1_lengthOf_5 : decode cX1_lengthOf 5 = .ok (.aload_n 0, 1) := by decide +kernel
theorem dX1_lengthOf_6 : decode cX1_lengthOf 6 = .ok (.getfield 40, 3) := by decide +kernel
theorem dX1_lengthOf_9 : decode cX1_lengthOf 9 = .ok (.if_icmp .ge 26, 3) := by decide +kernel
theorem dX1_lengthOf_12 : decode cX1_lengthOf 12 = .ok (.iload_n 1, 1) := by decide +kernel
theorem dX1_lengthOf_13 : decode cX1_lengthOf 13 = .ok (.iload_n 3, 1) := by decide +kernel
theorem dX1_lengthOf_14 : decode cX1_lengthOf 14 = .ok (.iushr, 1) := by decide +kernel
theorem dX1_lengthOf_15 : decode cX1_lengthOf 15 = .ok (.iconst 1, 1) := by decide +kernel
theorem dX1_lengthOf_16 : decode cX1_lengthOf 16 = .ok (.iand, 1) := by decide +kernel
theorem dX1_lengthOf_17 : decode cX1_lengthOf 17 = .ok (.ifCond .eq 12, 3) := by decide +kernel
theorem dX1_lengthOf_20 : decode cX1_lengthOf 20 = .ok (.iload_n 2, 1) := by decide +kernel
theorem dX1_lengthOf_21 : decode cX1_lengthOf 21 = .ok (.aload_n 0, 1) := by decide +kernel
theorem dX1_lengthOf_22 : decode cX1_lengthOf 22 = .ok (.getfield 21, 3) := by decide +kernel
theorem dX1_lengthOf_25 : decode cX1_lengthOf 25 = .ok (.iload_n 3, 1) := by decide +kernel
theorem dX1_lengthOf_26 : decode cX1_lengthOf 26 = .ok (.iaload, 1) := by decide +kernel
theorem dX1_lengthOf_27 : decode cX1_lengthOf 27 = .ok (.iadd, 1) := by decide +kernel
theorem dX1_lengthOf_28 : decode cX1_lengthOf 28 = .ok (.istore_n 2, 1) := by decide +kernel
theorem dX1_lengthOf_29 : decode cX1_lengthOf 29 = .ok (.iinc 3 1, 3) := by decide +kernel
theorem dX1_lengthOf_32 : decode cX1_lengthOf 32 = .ok (.goto (-28), 3) := by decide +kernel
theorem dX1_lengthOf_35 : decode cX1_lengthOf 35 = .ok (.iload_n 2, 1) := by decide +kernel
theorem dX1_lengthOf_36 : decode cX1_lengthOf 36 = .ok (.ireturn, 1) := by decide +kernel
theorem dX1_formatOf_0 : decode cX1_formatOf 0 = .ok (.iconst 3, 1) := by decide +kernel
theorem dX1_formatOf_1 : decode cX1_formatOf 1 = .ok (.istore_n 2, 1) := by decide +kernel
theorem dX1_formatOf_2 : decode cX1_formatOf 2 = .ok (.iload_n 2, 1) := by decide +kernel
theorem dX1_formatOf_3 : decode cX1_formatOf 3 = .ok (.ifCond .lt 21, 3) := by decide +kernel
theorem dX1_formatOf_6 : decode cX1_formatOf 6 = .ok (.aload_n 0, 1) := by decide +kernel
theorem dX1_formatOf_7 : decode cX1_formatOf 7 = .ok (.getfield 9, 3) := by decide +kernel
theorem dX1_formatOf_10 : decode cX1_formatOf 10 = .ok (.iload_n 2, 1) := by decide +kernel
theorem dX1_formatOf_11 : decode cX1_formatOf 11 = .ok (.iaload, 1) := by decide +kernel
theorem dX1_formatOf_12 : decode cX1_formatOf 12 = .ok (.iload_n 1, 1) := by decide +kernel
theorem dX1_formatOf_13 : decode cX1_formatOf 13 = .ok (.if_icmp .lt 5, 3) := by decide +kernel
theorem dX1_formatOf_16 : decode cX1_formatOf 16 = .ok (.iload_n 2, 1) := by decide +kernel
theorem dX1_formatOf_17 : decode cX1_formatOf 17 = .ok (.ireturn, 1) := by decide +kernel
theorem dX1_formatOf_18 : decode cX1_formatOf 18 = .ok (.iinc 2 (-1), 3) := by decide +kernel
theorem dX1_formatOf_21 : decode cX1_formatOf 21 = .ok (.goto (-19), 3) := by decide +kernel
theorem dX1_formatOf_24 : decode cX1_formatOf 24 = .ok (.iconst (-1), 1) := by decide +kernel
theorem dX1_formatOf_25 : decode cX1_formatOf 25 = .ok (.ireturn, 1) := by decide +kernel
theorem dX1_widthOf_0 : decode cX1_widthOf 0 = .ok (.aload_n 0, 1) := by decide +kernel
theorem dX1_widthOf_1 : decode cX1_widthOf 1 = .ok (.iload_n 2, 1) := by decide +kernel
theorem dX1_widthOf_2 : decode cX1_widthOf 2 = .ok (.invokevirtual 52, 3) := by decide +kernel
theorem dX1_widthOf_5 : decode cX1_widthOf 5 = .ok (.iconst 1, 1) := by decide +kernel
theorem dX1_widthOf_6 : decode cX1_widthOf 6 = .ok (.iadd, 1) := by decide +kernel
theorem dX1_widthOf_7 : decode cX1_widthOf 7 = .ok (.istore_n 3, 1) := by decide +kernel
theorem dX1_widthOf_8 : decode cX1_widthOf 8 = .ok (.iload_n 3, 1) := by decide +kernel
theorem dX1_widthOf_9 : decode cX1_widthOf 9 = .ok (.ifCond .gt 7, 3) := by decide +kernel
theorem dX1_widthOf_12 : decode cX1_widthOf 12 = .ok (.iconst 0, 1) := by decide +kernel
theorem dX1_widthOf_13 : decode cX1_widthOf 13 = .ok (.goto 10, 3) := by decide +kernel
theorem dX1_widthOf_16 : decode cX1_widthOf 16 = .ok (.iload_n 1, 1) := by decide +kernel
theorem dX1_widthOf_17 : decode cX1_widthOf 17 = .ok (.iload_n 3, 1) := by decide +kernel
theorem dX1_widthOf_18 : decode cX1_widthOf 18 = .ok (.iadd, 1) := by decide +kernel
theorem dX1_widthOf_19 : decode cX1_widthOf 19 = .ok (.iconst 1, 1) := by decide +kernel
theorem dX1_widthOf_20 : decode cX1_widthOf 20 = .ok (.isub, 1) := by decide +kernel
theorem dX1_widthOf_21 : decode cX1_widthOf 21 = .ok (.iload_n 3, 1) := by decide +kernel
theorem dX1_widthOf_22 : decode cX1_widthOf 22 = .ok (.idiv, 1) := by decide +kernel
theorem dX1_widthOf_23 : decode cX1_widthOf 23 = .ok (.ireturn, 1) := by decide +kernel
theorem dX1_allSlots_0 : decode cX1_allSlots 0 = .ok (.lconst 1, 1) := by decide +kernel
theorem dX1_allSlots_1 : decode cX1_allSlots 1 = .ok (.aload_n 0, 1) := by decide +kernel
theorem dX1_allSlots_2 : decode cX1_allSlots 2 = .ok (.getfield 34, 3) := by decide +kernel
theorem dX1_allSlots_5 : decode cX1_allSlots 5 = .ok (.lshl, 1) := by decide +kernel
theorem dX1_allSlots_6 : decode cX1_allSlots 6 = .ok (.lconst 1, 1) := by decide +kernel
theorem dX1_allSlots_7 : decode cX1_allSlots 7 = .ok (.lsub, 1) := by decide +kernel
theorem dX1_allSlots_8 : decode cX1_allSlots 8 = .ok (.lreturn, 1) := by decide +kernel
theorem dX2_init_0 : decode cX2_init 0 = .ok (.aload_n 0, 1) := by decide +kernel
theorem dX2_init_1 : decode cX2_init 1 = .ok (.invokespecial 3, 3) := by decide +kernel
theorem dX2_init_4 : decode cX2_init 4 = .ok (.aload_n 0, 1) := by decide +kernel
theorem dX2_init_5 : decode cX2_init 5 = .ok (.new 9, 3) := by decide +kernel
theorem dX2_init_8 : decode cX2_init 8 = .ok (.dup, 1) := by decide +kernel
theorem dX2_init_9 : decode cX2_init 9 = .ok (.invokespecial 11, 3) := by decide +kernel
theorem dX2_init_12 : decode cX2_init 12 = .ok (.putfield 12, 3) := by decide +kernel
theorem dX2_init_15 : decode cX2_init 15 = .ok (.aload_n 0, 1) := by decide +kernel
theorem dX2_init_16 : decode cX2_init 16 = .ok (.bipush 24, 2) := by decide +kernel
theorem dX2_init_18 : decode cX2_init 18 = .ok (.newarray .int, 2) := by decide +kernel
theorem dX2_init_20 : decode cX2_init 20 = .ok (.putfield 18, 3) := by decide +kernel
theorem dX2_init_23 : decode cX2_init 23 = .ok (.aload_n 0, 1) := by decide +kernel
theorem dX2_init_24 : decode cX2_init 24 = .ok (.bipush 96, 2) := by decide +kernel
theorem dX2_init_26 : decode cX2_init 26 = .ok (.newarray .int, 2) := by decide +kernel
theorem dX2_init_28 : decode cX2_init 28 = .ok (.putfield 22, 3) := by decide +kernel
theorem dX2_init_31 : decode cX2_init 31 = .ok (.aload_n 0, 1) := by decide +kernel
theorem dX2_init_32 : decode cX2_init 32 = .ok (.iconst 0, 1) := by decide +kernel
theorem dX2_init_33 : decode cX2_init 33 = .ok (.putfield 25, 3) := by decide +kernel
theorem dX2_init_36 : decode cX2_init 36 = .ok (.aload_n 0, 1) := by decide +kernel
theorem dX2_init_37 : decode cX2_init 37 = .ok (.iconst 0, 1) := by decide +kernel
theorem dX2_init_38 : decode cX2_init 38 = .ok (.putfield 29, 3) := by decide +kernel
theorem dX2_init_41 : decode cX2_init 41 = .ok (.aload_n 0, 1) := by decide +kernel
theorem dX2_init_42 : decode cX2_init 42 = .ok (.iconst 0, 1) := by decide +kernel
theorem dX2_init_43 : decode cX2_init 43 = .ok (.putfield 33, 3) := by decide +kernel
theorem dX2_init_46 : decode cX2_init 46 = .ok (.aload_n 0, 1) := by decide +kernel
theorem dX2_init_47 : decode cX2_init 47 = .ok (.iconst 0, 1) := by decide +kernel
theorem dX2_init_48 : decode cX2_init 48 = .ok (.putfield 36, 3) := by decide +kernel
theorem dX2_init_51 : decode cX2_init 51 = .ok (.aload_n 0, 1) := by decide +kernel
theorem dX2_init_52 : decode cX2_init 52 = .ok (.iconst 0, 1) := by decide +kernel
theorem dX2_init_53 : decode cX2_init 53 = .ok (.putfield 39, 3) := by decide +kernel
theorem dX2_init_56 : decode cX2_init 56 = .ok (.aload_n 0, 1) := by decide +kernel
theorem dX2_init_57 : decode cX2_init 57 = .ok (.aload_n 1, 1) := by decide +kernel
theorem dX2_init_58 : decode cX2_init 58 = .ok (.putfield 42, 3) := by decide +kernel
theorem dX2_init_61 : decode cX2_init 61 = .ok (.return_, 1) := by decide +kernel
theorem dX2_wordOf_0 : decode cX2_wordOf 0 = .ok (.iload_n 1, 1) := by decide +kernel
theorem dX2_wordOf_1 : decode cX2_wordOf 1 = .ok (.ifCond .lt 18, 3) := by decide +kernel
theorem dX2_wordOf_4 : decode cX2_wordOf 4 = .ok (.iload_n 1, 1) := by decide +kernel
theorem dX2_wordOf_5 : decode cX2_wordOf 5 = .ok (.bipush 24, 2) := by decide +kernel
theorem dX2_wordOf_7 : decode cX2_wordOf 7 = .ok (.if_icmp .ge 12, 3) := by decide +kernel
theorem dX2_wordOf_10 : decode cX2_wordOf 10 = .ok (.aload_n 0, 1) := by decide +kernel
theorem dX2_wordOf_11 : decode cX2_wordOf 11 = .ok (.getfield 18, 3) := by decide +kernel
theorem dX2_wordOf_14 : decode cX2_wordOf 14 = .ok (.iload_n 1, 1) := by decide +kernel
theorem dX2_wordOf_15 : decode cX2_wordOf 15 = .ok (.iaload, 1) := by decide +kernel
theorem dX2_wordOf_16 : decode cX2_wordOf 16 = .ok (.goto 4, 3) := by decide +kernel
theorem dX2_wordOf_19 : decode cX2_wordOf 19 = .ok (.iconst (-1), 1) := by decide +kernel
theorem dX2_wordOf_20 : decode cX2_wordOf 20 = .ok (.ireturn, 1) := by decide +kernel
theorem dX2_numberOf_0 : decode cX2_numberOf 0 = .ok (.iload_n 1, 1) := by decide +kernel
theorem dX2_numberOf_1 : decode cX2_numberOf 1 = .ok (.iconst 4, 1) := by decide +kernel
theorem dX2_numberOf_2 : decode cX2_numberOf 2 = .ok (.imul, 1) := by decide +kernel
theorem dX2_numberOf_3 : decode cX2_numberOf 3 = .ok (.iload_n 2, 1) := by decide +kernel
theorem dX2_numberOf_4 : decode cX2_numberOf 4 = .ok (.iadd, 1) := by decide +kernel
theorem dX2_numberOf_5 : decode cX2_numberOf 5 = .ok (.istore_n 3, 1) := by decide +kernel
theorem dX2_numberOf_6 : decode cX2_numberOf 6 = .ok (.iload_n 3, 1) := by decide +kernel
theorem dX2_numberOf_7 : decode cX2_numberOf 7 = .ok (.ifCond .lt 21, 3) := by decide +kernel
theorem dX2_numberOf_10 : decode cX2_numberOf 10 = .ok (.iload_n 3, 1) := by decide +kernel
theorem dX2_numberOf_11 : decode cX2_numberOf 11 = .ok (.aload_n 0, 1) := by decide +kernel
theorem dX2_numberOf_12 : decode cX2_numberOf 12 = .ok (.getfield 22, 3) := by decide +kernel
theorem dX2_numberOf_15 : decode cX2_numberOf 15 = .ok (.arraylength, 1) := by decide +kernel
theorem dX2_numberOf_16 : decode cX2_numberOf 16 = .ok (.if_icmp .ge 12, 3) := by decide +kernel
theorem dX2_numberOf_19 : decode cX2_numberOf 19 = .ok (.aload_n 0, 1) := by decide +kernel
theorem dX2_numberOf_20 : decode cX2_numberOf 20 = .ok (.getfield 22, 3) := by decide +kernel
theorem dX2_numberOf_23 : decode cX2_numberOf 23 = .ok (.iload_n 3, 1) := by decide +kernel
theorem dX2_numberOf_24 : decode cX2_numberOf 24 = .ok (.iaload, 1) := by decide +kernel
theorem dX2_numberOf_25 : decode cX2_numberOf 25 = .ok (.goto 4, 3) := by decide +kernel
theorem dX2_numberOf_28 : decode cX2_numberOf 28 = .ok (.iconst (-1), 1) := by decide +kernel
theorem dX2_numberOf_29 : decode cX2_numberOf 29 = .ok (.ireturn, 1) := by decide +kernel
theorem dX2_readText_0 : decode cX2_readText 0 = .ok (.aload_n 0, 1) := by decide +kernel
theorem dX2_readText_1 : decode cX2_readText 1 = .ok (.iload_n 2, 1) := by decide +kernel
theorem dX2_readText_2 : decode cX2_readText 2 = .ok (.putfield 25, 3) := by decide +kernel
theorem dX2_readText_5 : decode cX2_readText 5 = .ok (.aload_n 0, 1) := by decide +kernel
theorem dX2_readText_6 : decode cX2_readText 6 = .ok (.getfield 12, 3) := by decide +kernel
theorem dX2_readText_9 : decode cX2_readText 9 = .ok (.invokevirtual 46, 3) := by decide +kernel
theorem dX2_readText_12 : decode cX2_readText 12 = .ok (.aload_n 0, 1) := by decide +kernel
theorem dX2_readText_13 : decode cX2_readText 13 = .ok (.iload_n 1, 1) := by decide +kernel
theorem dX2_readText_14 : decode cX2_readText 14 = .ok (.putfield 33, 3) := by decide +kernel
theorem dX2_readText_17 : decode cX2_readText 17 = .ok (.aload_n 0, 1) := by decide +kernel
theorem dX2_readText_18 : decode cX2_readText 18 = .ok (.iconst 0, 1) := by decide +kernel
theorem dX2_readText_19 : decode cX2_readText 19 = .ok (.putfield 36, 3) := by decide +kernel
theorem dX2_readText_22 : decode cX2_readText 22 = .ok (.aload_n 0, 1) := by decide +kernel
theorem dX2_readText_23 : decode cX2_readText 23 = .ok (.iconst 0, 1) := by decide +kernel
theorem dX2_readText_24 : decode cX2_readText 24 = .ok (.putfield 39, 3) := by decide +kernel
theorem dX2_readText_27 : decode cX2_readText 27 = .ok (.aload_n 0, 1) := by decide +kernel
theorem dX2_readText_28 : decode cX2_readText 28 = .ok (.iconst 0, 1) := by decide +kernel
theorem dX2_readText_29 : decode cX2_readText 29 = .ok (.putfield 29, 3) := by decide +kernel
theorem dX2_readText_32 : decode cX2_readText 32 = .ok (.iconst 1, 1) := by decide +kernel
theorem dX2_readText_33 : decode cX2_readText 33 = .ok (.istore_n 3, 1) := by decide +kernel
theorem dX2_readText_34 : decode cX2_readText 34 = .ok (.iload_n 3, 1) := by decide +kernel
theorem dX2_readText_35 : decode cX2_readText 35 = .ok (.ifCond .eq 72, 3) := by decide +kernel
theorem dX2_readText_38 : decode cX2_readText 38 = .ok (.aload_n 0, 1) := by decide +kernel
theorem dX2_readText_39 : decode cX2_readText 39 = .ok (.getfield 29, 3) := by decide +kernel
theorem dX2_readText_42 : decode cX2_readText 42 = .ok (.bipush 24, 2) := by decide +kernel
theorem dX2_readText_44 : decode cX2_readText 44 = .ok (.if_icmp .ge 63, 3) := by decide +kernel
theorem dX2_readText_47 : decode cX2_readText 47 = .ok (.aload_n 0, 1) := by decide +kernel
theorem dX2_readText_48 : decode cX2_readText 48 = .ok (.invokevirtual 49, 3) := by decide +kernel
theorem dX2_readText_51 : decode cX2_readText 51 = .ok (.aload_n 0, 1) := by decide +kernel
theorem dX2_readText_52 : decode cX2_readText 52 = .ok (.getfield 39, 3) := by decide +kernel
theorem dX2_readText_55 : decode cX2_readText 55 = .ok (.ifCond .eq 8, 3) := by decide +kernel
theorem dX2_readText_58 : decode cX2_readText 58 = .ok (.aload_n 0, 1) := by decide +kernel
theorem dX2_readText_59 : decode cX2_readText 59 = .ok (.getfield 39, 3) := by decide +kernel
theorem dX2_readText_62 : decode cX2_readText 62 = .ok (.ireturn, 1) := by decide +kernel
theorem dX2_readText_63 : decode cX2_readText 63 = .ok (.aload_n 0, 1) := by decide +kernel
theorem dX2_readText_64 : decode cX2_readText 64 = .ok (.dup, 1) := by decide +kernel
theorem dX2_readText_65 : decode cX2_readText 65 = .ok (.getfield 29, 3) := by decide +kernel
theorem dX2_readText_68 : decode cX2_readText 68 = .ok (.iconst 1, 1) := by decide +kernel
theorem dX2_readText_69 : decode cX2_readText 69 = .ok (.iadd, 1) := by decide +kernel
theorem dX2_readText_70 : decode cX2_readText 70 = .ok (.putfield 29, 3) := by decide +kernel
theorem dX2_readText_73 : decode cX2_readText 73 = .ok (.aload_n 0, 1) := by decide +kernel
theorem dX2_readText_74 : decode cX2_readText 74 = .ok (.getfield 36, 3) := by decide +kernel
theorem dX2_readText_77 : decode cX2_readText 77 = .ok (.aload_n 0, 1) := by decide +kernel
theorem dX2_readText_78 : decode cX2_readText 78 = .ok (.getfield 33, 3) := by decide +kernel
theorem dX2_readText_81 : decode cX2_readText 81 = .ok (.if_icmp .ge 7, 3) := by decide +kernel
theorem dX2_readText_84 : decode cX2_readText 84 = .ok (.iconst 1, 1) := by decide +kernel
theorem dX2_readText_85 : decode cX2_readText 85 = .ok (.goto 4, 3) := by decide +kernel
theorem dX2_readText_88 : decode cX2_readText 88 = .ok (.iconst 0, 1) := by decide +kernel
theorem dX2_readText_89 : decode cX2_readText 89 = .ok (.istore_n 3, 1) := by decide +kernel
theorem dX2_readText_90 : decode cX2_readText 90 = .ok (.iload_n 3, 1) := by decide +kernel
theorem dX2_readText_91 : decode cX2_readText 91 = .ok (.ifCond .eq (-57), 3) := by decide +kernel
theorem dX2_readText_94 : decode cX2_readText 94 = .ok (.aload_n 0, 1) := by decide +kernel
theorem dX2_readText_95 : decode cX2_readText 95 = .ok (.dup, 1) := by decide +kernel
theorem dX2_readText_96 : decode cX2_readText 96 = .ok (.getfield 36, 3) := by decide +kernel
theorem dX2_readText_99 : decode cX2_readText 99 = .ok (.iconst 1, 1) := by decide +kernel
theorem dX2_readText_100 : decode cX2_readText 100 = .ok (.iadd, 1) := by decide +kernel
theorem dX2_readText_101 : decode cX2_readText 101 = .ok (.putfield 36, 3) := by decide +kernel
theorem dX2_readText_104 : decode cX2_readText 104 = .ok (.goto (-70), 3) := by decide +kernel
theorem dX2_readText_107 : decode cX2_readText 107 = .ok (.iload_n 3, 1) := by decide +kernel
theorem dX2_readText_108 : decode cX2_readText 108 = .ok (.ifCond .eq 17, 3) := by decide +kernel
theorem dX2_readText_111 : decode cX2_readText 111 = .ok (.aload_n 0, 1) := by decide +kernel
theorem dX2_readText_112 : decode cX2_readText 112 = .ok (.iconst 4, 1) := by decide +kernel
theorem dX2_readText_113 : decode cX2_readText 113 = .ok (.aload_n 0, 1) := by decide +kernel
theorem dX2_readText_114 : decode cX2_readText 114 = .ok (.getfield 36, 3) := by decide +kernel
theorem dX2_readText_117 : decode cX2_readText 117 = .ok (.invokevirtual 52, 3) := by decide +kernel
theorem dX2_readText_120 : decode cX2_readText 120 = .ok (.aload_n 0, 1) := by decide +kernel
theorem dX2_readText_121 : decode cX2_readText 121 = .ok (.getfield 39, 3) := by decide +kernel
theorem dX2_readText_124 : decode cX2_readText 124 = .ok (.ireturn, 1) := by decide +kernel
theorem dX2_readText_125 : decode cX2_readText 125 = .ok (.aload_n 0, 1) := by decide +kernel
theorem dX2_readText_126 : decode cX2_readText 126 = .ok (.getfield 12, 3) := by decide +kernel
theorem dX2_readText_129 : decode cX2_readText 129 = .ok (.aload_n 0, 1) := by decide +kernel
theorem dX2_readText_130 : decode cX2_readText 130 = .ok (.getfield 29, 3) := by decide +kernel
theorem dX2_readText_133 : decode cX2_readText 133 = .ok (.putfield 56, 3) := by decide +kernel
theorem dX2_readText_136 : decode cX2_readText 136 = .ok (.aload_n 0, 1) := by decide +kernel
theorem dX2_readText_137 : decode cX2_readText 137 = .ok (.getfield 29, 3) := by decide +kernel
theorem dX2_readText_140 : decode cX2_readText 140 = .ok (.ireturn, 1) := by decide +kernel
theorem dX2_readClause_0 : decode cX2_readClause 0 = .ok (.aload_n 0, 1) := by decide +kernel
theorem dX2_readClause_1 : decode cX2_readClause 1 = .ok (.getfield 36, 3) := by decide +kernel
theorem dX2_readClause_4 : decode cX2_readClause 4 = .ok (.istore_n 1, 1) := by decide +kernel
theorem dX2_readClause_5 : decode cX2_readClause 5 = .ok (.aload_n 0, 1) := by decide +kernel
theorem dX2_readClause_6 : decode cX2_readClause 6 = .ok (.getfield 36, 3) := by decide +kernel
theorem dX2_readClause_9 : decode cX2_readClause 9 = .ok (.aload_n 0, 1) := by decide +kernel
theorem dX2_readClause_10 : decode cX2_readClause 10 = .ok (.getfield 33, 3) := by decide +kernel
theorem dX2_readClause_13 : decode cX2_readClause 13 = .ok (.if_icmp .ge 50, 3) := by decide +kernel
theorem dX2_readClause_16 : decode cX2_readClause 16 = .ok (.aload_n 0, 1) := by decide +kernel
theorem dX2_readClause_17 : decode cX2_readClause 17 = .ok (.getfield 42, 3) := by decide +kernel
theorem dX2_readClause_20 : decode cX2_readClause 20 = .ok (.getfield 57, 3) := by decide +kernel
theorem dX2_readClause_23 : decode cX2_readClause 23 = .ok (.aload_n 0, 1) := by decide +kernel
theorem dX2_readClause_24 : decode cX2_readClause 24 = .ok (.getfield 36, 3) := by decide +kernel
theorem dX2_readClause_27 : decode cX2_readClause 27 = .ok (.iaload, 1) := by decide +kernel
theorem dX2_readClause_28 : decode cX2_readClause 28 = .ok (.bipush 97, 2) := by decide +kernel
theorem dX2_readClause_30 : decode cX2_readClause 30 = .ok (.if_icmp .lt 33, 3) := by decide +kernel
theorem dX2_readClause_33 : decode cX2_readClause 33 = .ok (.aload_n 0, 1) := by decide +kernel
theorem dX2_readClause_34 : decode cX2_readClause 34 = .ok (.getfield 42, 3) := by decide +kernel
theorem dX2_readClause_37 : decode cX2_readClause 37 = .ok (.getfield 57, 3) := by decide +kernel
theorem dX2_readClause_40 : decode cX2_readClause 40 = .ok (.aload_n 0, 1) := by decide +kernel
theorem dX2_readClause_41 : decode cX2_readClause 41 = .ok (.getfield 36, 3) := by decide +kernel
theorem dX2_readClause_44 : decode cX2_readClause 44 = .ok (.iaload, 1) := by decide +kernel
theorem dX2_readClause_45 : decode cX2_readClause 45 = .ok (.bipush 122, 2) := by decide +kernel
theorem dX2_readClause_47 : decode cX2_readClause 47 = .ok (.if_icmp .gt 16, 3) := by decide +kernel
theorem dX2_readClause_50 : decode cX2_readClause 50 = .ok (.aload_n 0, 1) := by decide +kernel
theorem dX2_readClause_51 : decode cX2_readClause 51 = .ok (.dup, 1) := by decide +kernel
theorem dX2_readClause_52 : decode cX2_readClause 52 = .ok (.getfield 36, 3) := by decide +kernel
theorem dX2_readClause_55 : decode cX2_readClause 55 = .ok (.iconst 1, 1) := by decide +kernel
theorem dX2_readClause_56 : decode cX2_readClause 56 = .ok (.iadd, 1) := by decide +kernel
theorem dX2_readClause_57 : decode cX2_readClause 57 = .ok (.putfield 36, 3) := by decide +kernel
theorem dX2_readClause_60 : decode cX2_readClause 60 = .ok (.goto (-55), 3) := by decide +kernel
theorem dX2_readClause_63 : decode cX2_readClause 63 = .ok (.aload_n 0, 1) := by decide +kernel
theorem dX2_readClause_64 : decode cX2_readClause 64 = .ok (.iload_n 1, 1) := by decide +kernel
theorem dX2_readClause_65 : decode cX2_readClause 65 = .ok (.invokevirtual 62, 3) := by decide +kernel
theorem dX2_readClause_68 : decode cX2_readClause 68 = .ok (.istore_n 2, 1) := by decide +kernel
theorem dX2_readClause_69 : decode cX2_readClause 69 = .ok (.iload_n 2, 1) := by decide +kernel
theorem dX2_readClause_70 : decode cX2_readClause 70 = .ok (.ifCond .ge 10, 3) := by decide +kernel
theorem dX2_readClause_73 : decode cX2_readClause 73 = .ok (.aload_n 0, 1) := by decide +kernel
theorem dX2_readClause_74 : decode cX2_readClause 74 = .ok (.iconst 1, 1) := by decide +kernel
theorem dX2_readClause_75 : decode cX2_readClause 75 = .ok (.iload_n 1, 1) := by decide +kernel
theorem dX2_readClause_76 : decode cX2_readClause 76 = .ok (.invokevirtual 52, 3) := by decide +kernel
theorem dX2_readClause_79 : decode cX2_readClause 79 = .ok (.return_, 1) := by decide +kernel
theorem dX2_readClause_80 : decode cX2_readClause 80 = .ok (.aload_n 0, 1) := by decide +kernel
theorem dX2_readClause_81 : decode cX2_readClause 81 = .ok (.getfield 25, 3) := by decide +kernel
theorem dX2_readClause_84 : decode cX2_readClause 84 = .ok (.ifCond .eq 28, 3) := by decide +kernel
theorem dX2_readClause_87 : decode cX2_readClause 87 = .ok (.iload_n 2, 1) := by decide +kernel
theorem dX2_readClause_88 : decode cX2_readClause 88 = .ok (.iconst 4, 1) := by decide +kernel
theorem dX2_readClause_89 : decode cX2_readClause 89 = .ok (.if_icmp .ne 23, 3) := by decide +kernel
theorem dX2_readClause_92 : decode cX2_readClause 92 = .ok (.aload_n 0, 1) := by decide +kernel
theorem dX2_readClause_93 : decode cX2_readClause 93 = .ok (.getfield 12, 3) := by decide +kernel
theorem dX2_readClause_96 : decode cX2_readClause 96 = .ok (.getfield 66, 3) := by decide +kernel
theorem dX2_readClause_99 : decode cX2_readClause 99 = .ok (.bipush 14, 2) := by decide +kernel
theorem dX2_readClause_101 : decode cX2_readClause 101 = .ok (.if_icmp .lt 11, 3) := by decide +kernel
theorem dX2_readClause_104 : decode cX2_readClause 104 = .ok (.aload_n 0, 1) := by decide +kernel
theorem dX2_readClause_105 : decode cX2_readClause 105 = .ok (.bipush 6, 2) := by decide +kernel
theorem dX2_readClause_107 : decode cX2_readClause 107 = .ok (.iload_n 1, 1) := by decide +kernel
theorem dX2_readClause_108 : decode cX2_readClause 108 = .ok (.invokevirtual 52, 3) := by decide +kernel
theorem dX2_readClause_111 : decode cX2_readClause 111 = .ok (.return_, 1) := by decide +kernel
theorem dX2_readClause_112 : decode cX2_readClause 112 = .ok (.aload_n 0, 1) := by decide +kernel
theorem dX2_readClause_113 : decode cX2_readClause 113 = .ok (.getfield 18, 3) := by decide +kernel
theorem dX2_readClause_116 : decode cX2_readClause 116 = .ok (.aload_n 0, 1) := by decide +kernel
theorem dX2_readClause_117 : decode cX2_readClause 117 = .ok (.getfield 29, 3) := by decide +kernel
theorem dX2_readClause_120 : decode cX2_readClause 120 = .ok (.iload_n 2, 1) := by decide +kernel
theorem dX2_readClause_121 : decode cX2_readClause 121 = .ok (.iastore, 1) := by decide +kernel
theorem dX2_readClause_122 : decode cX2_readClause 122 = .ok (.aload_n 0, 1) := by decide +kernel
theorem dX2_readClause_123 : decode cX2_readClause 123 = .ok (.getfield 25, 3) := by decide +kernel
theorem dX2_readClause_126 : decode cX2_readClause 126 = .ok (.ifCond .eq 11, 3) := by decide +kernel
theorem dX2_readClause_129 : decode cX2_readClause 129 = .ok (.getstatic 69, 3) := by decide +kernel
theorem dX2_readClause_132 : decode cX2_readClause 132 = .ok (.iload_n 2, 1) := by decide +kernel
theorem dX2_readClause_133 : decode cX2_readClause 133 = .ok (.iaload, 1) := by decide +kernel
theorem dX2_readClause_134 : decode cX2_readClause 134 = .ok (.goto 8, 3) := by decide +kernel
theorem dX2_readClause_137 : decode cX2_readClause 137 = .ok (.getstatic 72, 3) := by decide +kernel
theorem dX2_readClause_140 : decode cX2_readClause 140 = .ok (.iload_n 2, 1) := by decide +kernel
theorem dX2_readClause_141 : decode cX2_readClause 141 = .ok (.iaload, 1) := by decide +kernel
theorem dX2_readClause_142 : decode cX2_readClause 142 = .ok (.istore_n 3, 1) := by decide +kernel
theorem dX2_readClause_143 : decode cX2_readClause 143 = .ok (.iconst 0, 1) := by decide +kernel
theorem dX2_readClause_144 : decode cX2_readClause 144 = .ok (.istore 4, 2) := by decide +kernel
theorem dX2_readClause_146 : decode cX2_readClause 146 = .ok (.iload 4, 2) := by decide +kernel
theorem dX2_readClause_148 : decode cX2_readClause 148 = .ok (.iload_n 3, 1) := by decide +kernel
theorem dX2_readClause_149 : decode cX2_readClause 149 = .ok (.if_icmp .ge 23, 3) := by decide +kernel
theorem dX2_readClause_152 : decode cX2_readClause 152 = .ok (.aload_n 0, 1) := by decide +kernel
theorem dX2_readClause_153 : decode cX2_readClause 153 = .ok (.getfield 39, 3) := by decide +kernel
theorem dX2_readClause_156 : decode cX2_readClause 156 = .ok (.ifCond .ne 16, 3) := by decide +kernel
theorem dX2_readClause_159 : decode cX2_readClause 159 = .ok (.aload_n 0, 1) := by decide +kernel
theorem dX2_readClause_160 : decode cX2_readClause 160 = .ok (.iload_n 2, 1) := by decide +kernel
theorem dX2_readClause_161 : decode cX2_readClause 161 = .ok (.iload 4, 2) := by decide +kernel
theorem dX2_readClause_163 : decode cX2_readClause 163 = .ok (.invokevirtual 75, 3) := by decide +kernel
theorem dX2_readClause_166 : decode cX2_readClause 166 = .ok (.iinc 4 1, 3) := by decide +kernel
theorem dX2_readClause_169 : decode cX2_readClause 169 = .ok (.goto (-23), 3) := by decide +kernel
theorem dX2_readClause_172 : decode cX2_readClause 172 = .ok (.aload_n 0, 1) := by decide +kernel
theorem dX2_readClause_173 : decode cX2_readClause 173 = .ok (.getfield 39, 3) := by decide +kernel
theorem dX2_readClause_176 : decode cX2_readClause 176 = .ok (.ifCond .ne 40, 3) := by decide +kernel
theorem dX2_readClause_179 : decode cX2_readClause 179 = .ok (.aload_n 0, 1) := by decide +kernel
theorem dX2_readClause_180 : decode cX2_readClause 180 = .ok (.getfield 36, 3) := by decide +kernel
theorem dX2_readClause_183 : decode cX2_readClause 183 = .ok (.aload_n 0, 1) := by decide +kernel
theorem dX2_readClause_184 : decode cX2_readClause 184 = .ok (.getfield 33, 3) := by decide +kernel
theorem dX2_readClause_187 : decode cX2_readClause 187 = .ok (.if_icmp .ge 29, 3) := by decide +kernel
theorem dX2_readClause_190 : decode cX2_readClause 190 = .ok (.aload_n 0, 1) := by decide +kernel
theorem dX2_readClause_191 : decode cX2_readClause 191 = .ok (.getfield 42, 3) := by decide +kernel
theorem dX2_readClause_194 : decode cX2_readClause 194 = .ok (.getfield 57, 3) := by decide +kernel
theorem dX2_readClause_197 : decode cX2_readClause 197 = .ok (.aload_n 0, 1) := by decide +kernel
theorem dX2_readClause_198 : decode cX2_readClause 198 = .ok (.getfield 36, 3) := by decide +kernel
theorem dX2_readClause_201 : decode cX2_readClause 201 = .ok (.iaload, 1) := by decide +kernel
theorem dX2_readClause_202 : decode cX2_readClause 202 = .ok (.bipush 59, 2) := by decide +kernel
theorem dX2_readClause_204 : decode cX2_readClause 204 = .ok (.if_icmp .eq 12, 3) := by decide +kernel
theorem dX2_readClause_207 : decode cX2_readClause 207 = .ok (.aload_n 0, 1) := by decide +kernel
theorem dX2_readClause_208 : decode cX2_readClause 208 = .ok (.iconst 1, 1) := by decide +kernel
theorem dX2_readClause_209 : decode cX2_readClause 209 = .ok (.aload_n 0, 1) := by decide +kernel
theorem dX2_readClause_210 : decode cX2_readClause 210 = .ok (.getfield 36, 3) := by decide +kernel
theorem dX2_readClause_213 : decode cX2_readClause 213 = .ok (.invokevirtual 52, 3) := by decide +kernel
theorem dX2_readClause_216 : decode cX2_readClause 216 = .ok (.return_, 1) := by decide +kernel
theorem dX2_readNumber_0 : decode cX2_readNumber 0 = .ok (.aload_n 0, 1) := by decide +kernel
theorem dX2_readNumber_1 : decode cX2_readNumber 1 = .ok (.getfield 36, 3) := by decide +kernel
theorem dX2_readNumber_4 : decode cX2_readNumber 4 = .ok (.aload_n 0, 1) := by decide +kernel
theorem dX2_readNumber_5 : decode cX2_readNumber 5 = .ok (.getfield 33, 3) := by decide +kernel
theorem dX2_readNumber_8 : decode cX2_readNumber 8 = .ok (.if_icmp .ge 20, 3) := by decide +kernel
theorem dX2_readNumber_11 : decode cX2_readNumber 11 = .ok (.aload_n 0, 1) := by decide +kernel
theorem dX2_readNumber_12 : decode cX2_readNumber 12 = .ok (.getfield 42, 3) := by decide +kernel
theorem dX2_readNumber_15 : decode cX2_readNumber 15 = .ok (.getfield 57, 3) := by decide +kernel
theorem dX2_readNumber_18 : decode cX2_readNumber 18 = .ok (.aload_n 0, 1) := by decide +kernel
theorem dX2_readNumber_19 : decode cX2_readNumber 19 = .ok (.getfield 36, 3) := by decide +kernel
theorem dX2_readNumber_22 : decode cX2_readNumber 22 = .ok (.iaload, 1) := by decide +kernel
theorem dX2_readNumber_23 : decode cX2_readNumber 23 = .ok (.bipush 32, 2) := by decide +kernel
theorem dX2_readNumber_25 : decode cX2_readNumber 25 = .ok (.if_icmp .eq 13, 3) := by decide +kernel
theorem dX2_readNumber_28 : decode cX2_readNumber 28 = .ok (.aload_n 0, 1) := by decide +kernel
theorem dX2_readNumber_29 : decode cX2_readNumber 29 = .ok (.iconst 1, 1) := by decide +kernel
theorem dX2_readNumber_30 : decode cX2_readNumber 30 = .ok (.aload_n 0, 1) := by decide +kernel
theorem dX2_readNumber_31 : decode cX2_readNumber 31 = .ok (.getfield 36, 3) := by decide +kernel
theorem dX2_readNumber_34 : decode cX2_readNumber 34 = .ok (.invokevirtual 52, 3) := by decide +kernel
theorem dX2_readNumber_37 : decode cX2_readNumber 37 = .ok (.return_, 1) := by decide +kernel
theorem dX2_readNumber_38 : decode cX2_readNumber 38 = .ok (.aload_n 0, 1) := by decide +kernel
theorem dX2_readNumber_39 : decode cX2_readNumber 39 = .ok (.dup, 1) := by decide +kernel
theorem dX2_readNumber_40 : decode cX2_readNumber 40 = .ok (.getfield 36, 3) := by decide +kernel
theorem dX2_readNumber_43 : decode cX2_readNumber 43 = .ok (.iconst 1, 1) := by decide +kernel
theorem dX2_readNumber_44 : decode cX2_readNumber 44 = .ok (.iadd, 1) := by decide +kernel
theorem dX2_readNumber_45 : decode cX2_readNumber 45 = .ok (.putfield 36, 3) := by decide +kernel
theorem dX2_readNumber_48 : decode cX2_readNumber 48 = .ok (.aload_n 0, 1) := by decide +kernel
theorem dX2_readNumber_49 : decode cX2_readNumber 49 = .ok (.getfield 36, 3) := by decide +kernel
theorem dX2_readNumber_52 : decode cX2_readNumber 52 = .ok (.istore_n 3, 1) := by decide +kernel
theorem dX2_readNumber_53 : decode cX2_readNumber 53 = .ok (.iconst 0, 1) := by decide +kernel
theorem dX2_readNumber_54 : decode cX2_readNumber 54 = .ok (.istore 4, 2) := by decide +kernel
theorem dX2_readNumber_56 : decode cX2_readNumber 56 = .ok (.aload_n 0, 1) := by decide +kernel
theorem dX2_readNumber_57 : decode cX2_readNumber 57 = .ok (.getfield 36, 3) := by decide +kernel
theorem dX2_readNumber_60 : decode cX2_readNumber 60 = .ok (.aload_n 0, 1) := by decide +kernel
theorem dX2_readNumber_61 : decode cX2_readNumber 61 = .ok (.getfield 33, 3) := by decide +kernel
theorem dX2_readNumber_64 : decode cX2_readNumber 64 = .ok (.if_icmp .ge 93, 3) := by decide +kernel
theorem dX2_readNumber_67 : decode cX2_readNumber 67 = .ok (.aload_n 0, 1) := by decide +kernel
theorem dX2_readNumber_68 : decode cX2_readNumber 68 = .ok (.getfield 42, 3) := by decide +kernel
theorem dX2_readNumber_71 : decode cX2_readNumber 71 = .ok (.getfield 57, 3) := by decide +kernel
theorem dX2_readNumber_74 : decode cX2_readNumber 74 = .ok (.aload_n 0, 1) := by decide +kernel
theorem dX2_readNumber_75 : decode cX2_readNumber 75 = .ok (.getfield 36, 3) := by decide +kernel
theorem dX2_readNumber_78 : decode cX2_readNumber 78 = .ok (.iaload, 1) := by decide +kernel
theorem dX2_readNumber_79 : decode cX2_readNumber 79 = .ok (.bipush 48, 2) := by decide +kernel
theorem dX2_readNumber_81 : decode cX2_readNumber 81 = .ok (.if_icmp .lt 76, 3) := by decide +kernel
theorem dX2_readNumber_84 : decode cX2_readNumber 84 = .ok (.aload_n 0, 1) := by decide +kernel
theorem dX2_readNumber_85 : decode cX2_readNumber 85 = .ok (.getfield 42, 3) := by decide +kernel
theorem dX2_readNumber_88 : decode cX2_readNumber 88 = .ok (.getfield 57, 3) := by decide +kernel
theorem dX2_readNumber_91 : decode cX2_readNumber 91 = .ok (.aload_n 0, 1) := by decide +kernel
theorem dX2_readNumber_92 : decode cX2_readNumber 92 = .ok (.getfield 36, 3) := by decide +kernel
theorem dX2_readNumber_95 : decode cX2_readNumber 95 = .ok (.iaload, 1) := by decide +kernel
theorem dX2_readNumber_96 : decode cX2_readNumber 96 = .ok (.bipush 57, 2) := by decide +kernel
theorem dX2_readNumber_98 : decode cX2_readNumber 98 = .ok (.if_icmp .gt 59, 3) := by decide +kernel
theorem dX2_readNumber_101 : decode cX2_readNumber 101 = .ok (.aload_n 0, 1) := by decide +kernel
theorem dX2_readNumber_102 : decode cX2_readNumber 102 = .ok (.getfield 36, 3) := by decide +kernel
theorem dX2_readNumber_105 : decode cX2_readNumber 105 = .ok (.iload_n 3, 1) := by decide +kernel
theorem dX2_readNumber_106 : decode cX2_readNumber 106 = .ok (.isub, 1) := by decide +kernel
theorem dX2_readNumber_107 : decode cX2_readNumber 107 = .ok (.iconst 5, 1) := by decide +kernel
theorem dX2_readNumber_108 : decode cX2_readNumber 108 = .ok (.if_icmp .ne 13, 3) := by decide +kernel
theorem dX2_readNumber_111 : decode cX2_readNumber 111 = .ok (.aload_n 0, 1) := by decide +kernel
theorem dX2_readNumber_112 : decode cX2_readNumber 112 = .ok (.iconst 2, 1) := by decide +kernel
theorem dX2_readNumber_113 : decode cX2_readNumber 113 = .ok (.aload_n 0, 1) := by decide +kernel
theorem dX2_readNumber_114 : decode cX2_readNumber 114 = .ok (.getfield 36, 3) := by decide +kernel
theorem dX2_readNumber_117 : decode cX2_readNumber 117 = .ok (.invokevirtual 52, 3) := by decide +kernel
theorem dX2_readNumber_120 : decode cX2_readNumber 120 = .ok (.return_, 1) := by decide +kernel
theorem dX2_readNumber_121 : decode cX2_readNumber 121 = .ok (.iload 4, 2) := by decide +kernel
theorem dX2_readNumber_123 : decode cX2_readNumber 123 = .ok (.bipush 10, 2) := by decide +kernel
theorem dX2_readNumber_125 : decode cX2_readNumber 125 = .ok (.imul, 1) := by decide +kernel
theorem dX2_readNumber_126 : decode cX2_readNumber 126 = .ok (.aload_n 0, 1) := by decide +kernel
theorem dX2_readNumber_127 : decode cX2_readNumber 127 = .ok (.getfield 42, 3) := by decide +kernel
theorem dX2_readNumber_130 : decode cX2_readNumber 130 = .ok (.getfield 57, 3) := by decide +kernel
theorem dX2_readNumber_133 : decode cX2_readNumber 133 = .ok (.aload_n 0, 1) := by decide +kernel
theorem dX2_readNumber_134 : decode cX2_readNumber 134 = .ok (.getfield 36, 3) := by decide +kernel
theorem dX2_readNumber_137 : decode cX2_readNumber 137 = .ok (.iaload, 1) := by decide +kernel
theorem dX2_readNumber_138 : decode cX2_readNumber 138 = .ok (.iadd, 1) := by decide +kernel
theorem dX2_readNumber_139 : decode cX2_readNumber 139 = .ok (.bipush 48, 2) := by decide +kernel
theorem dX2_readNumber_141 : decode cX2_readNumber 141 = .ok (.isub, 1) := by decide +kernel
theorem dX2_readNumber_142 : decode cX2_readNumber 142 = .ok (.istore 4, 2) := by decide +kernel
theorem dX2_readNumber_144 : decode cX2_readNumber 144 = .ok (.aload_n 0, 1) := by decide +kernel
theorem dX2_readNumber_145 : decode cX2_readNumber 145 = .ok (.dup, 1) := by decide +kernel
theorem dX2_readNumber_146 : decode cX2_readNumber 146 = .ok (.getfield 36, 3) := by decide +kernel
theorem dX2_readNumber_149 : decode cX2_readNumber 149 = .ok (.iconst 1, 1) := by decide +kernel
theorem dX2_readNumber_150 : decode cX2_readNumber 150 = .ok (.iadd, 1) := by decide +kernel
theorem dX2_readNumber_151 : decode cX2_readNumber 151 = .ok (.putfield 36, 3) := by decide +kernel
theorem dX2_readNumber_154 : decode cX2_readNumber 154 = .ok (.goto (-98), 3) := by decide +kernel
theorem dX2_readNumber_157 : decode cX2_readNumber 157 = .ok (.aload_n 0, 1) := by decide +kernel
theorem dX2_readNumber_158 : decode cX2_readNumber 158 = .ok (.getfield 36, 3) := by decide +kernel
theorem dX2_readNumber_161 : decode cX2_readNumber 161 = .ok (.iload_n 3, 1) := by decide +kernel
theorem dX2_readNumber_162 : decode cX2_readNumber 162 = .ok (.if_icmp .ne 13, 3) := by decide +kernel
theorem dX2_readNumber_165 : decode cX2_readNumber 165 = .ok (.aload_n 0, 1) := by decide +kernel
theorem dX2_readNumber_166 : decode cX2_readNumber 166 = .ok (.iconst 1, 1) := by decide +kernel
theorem dX2_readNumber_167 : decode cX2_readNumber 167 = .ok (.aload_n 0, 1) := by decide +kernel
theorem dX2_readNumber_168 : decode cX2_readNumber 168 = .ok (.getfield 36, 3) := by decide +kernel
theorem dX2_readNumber_171 : decode cX2_readNumber 171 = .ok (.invokevirtual 52, 3) := by decide +kernel
theorem dX2_readNumber_174 : decode cX2_readNumber 174 = .ok (.return_, 1) := by decide +kernel
theorem dX2_readNumber_175 : decode cX2_readNumber 175 = .ok (.aload_n 0, 1) := by decide +kernel
theorem dX2_readNumber_176 : decode cX2_readNumber 176 = .ok (.getfield 22, 3) := by decide +kernel
theorem dX2_readNumber_179 : decode cX2_readNumber 179 = .ok (.aload_n 0, 1) := by decide +kernel
theorem dX2_readNumber_180 : decode cX2_readNumber 180 = .ok (.getfield 29, 3) := by decide +kernel
theorem dX2_readNumber_183 : decode cX2_readNumber 183 = .ok (.iconst 4, 1) := by decide +kernel
theorem dX2_readNumber_184 : decode cX2_readNumber 184 = .ok (.imul, 1) := by decide +kernel
theorem dX2_readNumber_185 : decode cX2_readNumber 185 = .ok (.iload_n 2, 1) := by decide +kernel
theorem dX2_readNumber_186 : decode cX2_readNumber 186 = .ok (.iadd, 1) := by decide +kernel
theorem dX2_readNumber_187 : decode cX2_readNumber 187 = .ok (.iload 4, 2) := by decide +kernel
theorem dX2_readNumber_189 : decode cX2_readNumber 189 = .ok (.iastore, 1) := by decide +kernel
theorem dX2_readNumber_190 : decode cX2_readNumber 190 = .ok (.aload_n 0, 1) := by decide +kernel
theorem dX2_readNumber_191 : decode cX2_readNumber 191 = .ok (.getfield 25, 3) := by decide +kernel
theorem dX2_readNumber_194 : decode cX2_readNumber 194 = .ok (.ifCond .eq 14, 3) := by decide +kernel
theorem dX2_readNumber_197 : decode cX2_readNumber 197 = .ok (.aload_n 0, 1) := by decide +kernel
theorem dX2_readNumber_198 : decode cX2_readNumber 198 = .ok (.iload_n 1, 1) := by decide +kernel
theorem dX2_readNumber_199 : decode cX2_readNumber 199 = .ok (.iload_n 2, 1) := by decide +kernel
theorem dX2_readNumber_200 : decode cX2_readNumber 200 = .ok (.iload 4, 2) := by decide +kernel
theorem dX2_readNumber_202 : decode cX2_readNumber 202 = .ok (.invokevirtual 78, 3) := by decide +kernel
theorem dX2_readNumber_205 : decode cX2_readNumber 205 = .ok (.goto 11, 3) := by decide +kernel
theorem dX2_readNumber_208 : decode cX2_readNumber 208 = .ok (.aload_n 0, 1) := by decide +kernel
theorem dX2_readNumber_209 : decode cX2_readNumber 209 = .ok (.iload_n 1, 1) := by decide +kernel
theorem dX2_readNumber_210 : decode cX2_readNumber 210 = .ok (.iload_n 2, 1) := by decide +kernel
theorem dX2_readNumber_211 : decode cX2_readNumber 211 = .ok (.iload 4, 2) := by decide +kernel
theorem dX2_readNumber_213 : decode cX2_readNumber 213 = .ok (.invokevirtual 82, 3) := by decide +kernel
theorem dX2_readNumber_216 : decode cX2_readNumber 216 = .ok (.istore 5, 2) := by decide +kernel
theorem dX2_readNumber_218 : decode cX2_readNumber 218 = .ok (.iload 5, 2) := by decide +kernel
theorem dX2_readNumber_220 : decode cX2_readNumber 220 = .ok (.ifCond .eq 10, 3) := by decide +kernel
theorem dX2_readNumber_223 : decode cX2_readNumber 223 = .ok (.aload_n 0, 1) := by decide +kernel
theorem dX2_readNumber_224 : decode cX2_readNumber 224 = .ok (.iload 5, 2) := by decide +kernel
theorem dX2_readNumber_226 : decode cX2_readNumber 226 = .ok (.iload_n 3, 1) := by decide +kernel
theorem dX2_readNumber_227 : decode cX2_readNumber 227 = .ok (.invokevirtual 52, 3) := by decide +kernel
theorem dX2_readNumber_230 : decode cX2_readNumber 230 = .ok (.return_, 1) := by decide +kernel
theorem dX2_blame_0 : decode cX2_blame 0 = .ok (.aload_n 0, 1) := by decide +kernel
theorem dX2_blame_1 : decode cX2_blame 1 = .ok (.sipush (-1000), 3) := by decide +kernel
theorem dX2_blame_4 : decode cX2_blame 4 = .ok (.iload_n 1, 1) := by decide +kernel
theorem dX2_blame_5 : decode cX2_blame 5 = .ok (.imul, 1) := by decide +kernel
theorem dX2_blame_6 : decode cX2_blame 6 = .ok (.iload_n 2, 1) := by decide +kernel
theorem dX2_blame_7 : decode cX2_blame 7 = .ok (.isub, 1) := by decide +kernel
theorem dX2_blame_8 : decode cX2_blame 8 = .ok (.putfield 39, 3) := by decide +kernel
theorem dX2_blame_11 : decode cX2_blame 11 = .ok (.return_, 1) := by decide +kernel
theorem dX2_stepFault_0 : decode cX2_stepFault 0 = .ok (.iload_n 2, 1) := by decide +kernel
theorem dX2_stepFault_1 : decode cX2_stepFault 1 = .ok (.getstatic 85, 3) := by decide +kernel
theorem dX2_stepFault_4 : decode cX2_stepFault 4 = .ok (.iload_n 1, 1) := by decide +kernel
theorem dX2_stepFault_5 : decode cX2_stepFault 5 = .ok (.iaload, 1) := by decide +kernel
theorem dX2_stepFault_6 : decode cX2_stepFault 6 = .ok (.if_icmp .ne 7, 3) := by decide +kernel
theorem dX2_stepFault_9 : decode cX2_stepFault 9 = .ok (.iconst 3, 1) := by decide +kernel
theorem dX2_stepFault_10 : decode cX2_stepFault 10 = .ok (.goto 5, 3) := by decide +kernel
theorem dX2_stepFault_13 : decode cX2_stepFault 13 = .ok (.bipush 99, 2) := by decide +kernel
theorem dX2_stepFault_15 : decode cX2_stepFault 15 = .ok (.istore 4, 2) := by decide +kernel
theorem dX2_stepFault_17 : decode cX2_stepFault 17 = .ok (.iload_n 3, 1) := by decide +kernel
theorem dX2_stepFault_18 : decode cX2_stepFault 18 = .ok (.iload 4, 2) := by decide +kernel
theorem dX2_stepFault_20 : decode cX2_stepFault 20 = .ok (.if_icmp .le 7, 3) := by decide +kernel
theorem dX2_stepFault_23 : decode cX2_stepFault 23 = .ok (.iconst 3, 1) := by decide +kernel
theorem dX2_stepFault_24 : decode cX2_stepFault 24 = .ok (.goto 4, 3) := by decide +kernel
theorem dX2_stepFault_27 : decode cX2_stepFault 27 = .ok (.iconst 0, 1) := by decide +kernel
theorem dX2_stepFault_28 : decode cX2_stepFault 28 = .ok (.ireturn, 1) := by decide +kernel
theorem dX2_gridFault_0 : decode cX2_gridFault 0 = .ok (.iload_n 1, 1) := by decide +kernel
theorem dX2_gridFault_1 : decode cX2_gridFault 1 = .ok (.tableswitch 145 0 3 #[31, 64, 88, 105], 31) := by decide +kernel
theorem dX2_gridFault_32 : decode cX2_gridFault 32 = .ok (.iload_n 3, 1) := by decide +kernel
theorem dX2_gridFault_33 : decode cX2_gridFault 33 = .ok (.iconst 2, 1) := by decide +kernel
theorem dX2_gridFault_34 : decode cX2_gridFault 34 = .ok (.if_icmp .lt 19, 3) := by decide +kernel
theorem dX2_gridFault_37 : decode cX2_gridFault 37 = .ok (.iload_n 3, 1) := by decide +kernel
theorem dX2_gridFault_38 : decode cX2_gridFault 38 = .ok (.bipush 8, 2) := by decide +kernel
theorem dX2_gridFault_40 : decode cX2_gridFault 40 = .ok (.if_icmp .gt 13, 3) := by decide +kernel
theorem dX2_gridFault_43 : decode cX2_gridFault 43 = .ok (.aload_n 0, 1) := by decide +kernel
theorem dX2_gridFault_44 : decode cX2_gridFault 44 = .ok (.getfield 12, 3) := by decide +kernel
theorem dX2_gridFault_47 : decode cX2_gridFault 47 = .ok (.getfield 66, 3) := by decide +kernel
theorem dX2_gridFault_50 : decode cX2_gridFault 50 = .ok (.ifCond .le 5, 3) := by decide +kernel
theorem dX2_gridFault_53 : decode cX2_gridFault 53 = .ok (.iconst 3, 1) := by decide +kernel
theorem dX2_gridFault_54 : decode cX2_gridFault 54 = .ok (.ireturn, 1) := by decide +kernel
theorem dX2_gridFault_55 : decode cX2_gridFault 55 = .ok (.aload_n 0, 1) := by decide +kernel
theorem dX2_gridFault_56 : decode cX2_gridFault 56 = .ok (.getfield 12, 3) := by decide +kernel
theorem dX2_gridFault_59 : decode cX2_gridFault 59 = .ok (.iload_n 3, 1) := by decide +kernel
theorem dX2_gridFault_60 : decode cX2_gridFault 60 = .ok (.putfield 88, 3) := by decide +kernel
theorem dX2_gridFault_63 : decode cX2_gridFault 63 = .ok (.iconst 0, 1) := by decide +kernel
theorem dX2_gridFault_64 : decode cX2_gridFault 64 = .ok (.ireturn, 1) := by decide +kernel
theorem dX2_gridFault_65 : decode cX2_gridFault 65 = .ok (.iload_n 3, 1) := by decide +kernel
theorem dX2_gridFault_66 : decode cX2_gridFault 66 = .ok (.bipush 8, 2) := by decide +kernel
theorem dX2_gridFault_68 : decode cX2_gridFault 68 = .ok (.if_icmp .lt 9, 3) := by decide +kernel
theorem dX2_gridFault_71 : decode cX2_gridFault 71 = .ok (.iload_n 3, 1) := by decide +kernel
theorem dX2_gridFault_72 : decode cX2_gridFault 72 = .ok (.bipush 60, 2) := by decide +kernel
theorem dX2_gridFault_74 : decode cX2_gridFault 74 = .ok (.if_icmp .le 5, 3) := by decide +kernel
theorem dX2_gridFault_77 : decode cX2_gridFault 77 = .ok (.iconst 3, 1) := by decide +kernel
theorem dX2_gridFault_78 : decode cX2_gridFault 78 = .ok (.ireturn, 1) := by decide +kernel
theorem dX2_gridFault_79 : decode cX2_gridFault 79 = .ok (.aload_n 0, 1) := by decide +kernel
theorem dX2_gridFault_80 : decode cX2_gridFault 80 = .ok (.getfield 12, 3) := by decide +kernel
theorem dX2_gridFault_83 : decode cX2_gridFault 83 = .ok (.iload_n 3, 1) := by decide +kernel
theorem dX2_gridFault_84 : decode cX2_gridFault 84 = .ok (.putfield 91, 3) := by decide +kernel
theorem dX2_gridFault_87 : decode cX2_gridFault 87 = .ok (.iconst 0, 1) := by decide +kernel
theorem dX2_gridFault_88 : decode cX2_gridFault 88 = .ok (.ireturn, 1) := by decide +kernel
theorem dX2_gridFault_89 : decode cX2_gridFault 89 = .ok (.iload_n 3, 1) := by decide +kernel
theorem dX2_gridFault_90 : decode cX2_gridFault 90 = .ok (.iconst 4, 1) := by decide +kernel
theorem dX2_gridFault_91 : decode cX2_gridFault 91 = .ok (.if_icmp .le 5, 3) := by decide +kernel
theorem dX2_gridFault_94 : decode cX2_gridFault 94 = .ok (.iconst 3, 1) := by decide +kernel
theorem dX2_gridFault_95 : decode cX2_gridFault 95 = .ok (.ireturn, 1) := by decide +kernel
theorem dX2_gridFault_96 : decode cX2_gridFault 96 = .ok (.aload_n 0, 1) := by decide +kernel
theorem dX2_gridFault_97 : decode cX2_gridFault 97 = .ok (.getfield 12, 3) := by decide +kernel
theorem dX2_gridFault_100 : decode cX2_gridFault 100 = .ok (.iload_n 3, 1) := by decide +kernel
theorem dX2_gridFault_101 : decode cX2_gridFault 101 = .ok (.putfield 94, 3) := by decide +kernel
theorem dX2_gridFault_104 : decode cX2_gridFault 104 = .ok (.iconst 0, 1) := by decide +kernel
theorem dX2_gridFault_105 : decode cX2_gridFault 105 = .ok (.ireturn, 1) := by decide +kernel
theorem dX2_gridFault_106 : decode cX2_gridFault 106 = .ok (.iload_n 3, 1) := by decide +kernel
theorem dX2_gridFault_107 : decode cX2_gridFault 107 = .ok (.sipush 999, 3) := by decide +kernel
theorem dX2_gridFault_110 : decode cX2_gridFault 110 = .ok (.if_icmp .gt 22, 3) := by decide +kernel
theorem dX2_gridFault_113 : decode cX2_gridFault 113 = .ok (.iload_n 2, 1) := by decide +kernel
theorem dX2_gridFault_114 : decode cX2_gridFault 114 = .ok (.ifCond .le 20, 3) := by decide +kernel
theorem dX2_gridFault_117 : decode cX2_gridFault 117 = .ok (.iload_n 3, 1) := by decide +kernel
theorem dX2_gridFault_118 : decode cX2_gridFault 118 = .ok (.aload_n 0, 1) := by decide +kernel
theorem dX2_gridFault_119 : decode cX2_gridFault 119 = .ok (.getfield 12, 3) := by decide +kernel
theorem dX2_gridFault_122 : decode cX2_gridFault 122 = .ok (.getfield 97, 3) := by decide +kernel
theorem dX2_gridFault_125 : decode cX2_gridFault 125 = .ok (.iload_n 2, 1) := by decide +kernel
theorem dX2_gridFault_126 : decode cX2_gridFault 126 = .ok (.iconst 1, 1) := by decide +kernel
theorem dX2_gridFault_127 : decode cX2_gridFault 127 = .ok (.isub, 1) := by decide +kernel
theorem dX2_gridFault_128 : decode cX2_gridFault 128 = .ok (.iaload, 1) := by decide +kernel
theorem dX2_gridFault_129 : decode cX2_gridFault 129 = .ok (.if_icmp .le 5, 3) := by decide +kernel
theorem dX2_gridFault_132 : decode cX2_gridFault 132 = .ok (.iconst 3, 1) := by decide +kernel
theorem dX2_gridFault_133 : decode cX2_gridFault 133 = .ok (.ireturn, 1) := by decide +kernel
theorem dX2_gridFault_134 : decode cX2_gridFault 134 = .ok (.aload_n 0, 1) := by decide +kernel
theorem dX2_gridFault_135 : decode cX2_gridFault 135 = .ok (.getfield 12, 3) := by decide +kernel
theorem dX2_gridFault_138 : decode cX2_gridFault 138 = .ok (.getfield 97, 3) := by decide +kernel
theorem dX2_gridFault_141 : decode cX2_gridFault 141 = .ok (.iload_n 2, 1) := by decide +kernel
theorem dX2_gridFault_142 : decode cX2_gridFault 142 = .ok (.iload_n 3, 1) := by decide +kernel
theorem dX2_gridFault_143 : decode cX2_gridFault 143 = .ok (.iastore, 1) := by decide +kernel
theorem dX2_gridFault_144 : decode cX2_gridFault 144 = .ok (.iconst 0, 1) := by decide +kernel
theorem dX2_gridFault_145 : decode cX2_gridFault 145 = .ok (.ireturn, 1) := by decide +kernel
theorem dX2_gridFault_146 : decode cX2_gridFault 146 = .ok (.aload_n 0, 1) := by decide +kernel
theorem dX2_gridFault_147 : decode cX2_gridFault 147 = .ok (.iload_n 2, 1) := by decide +kernel
theorem dX2_gridFault_148 : decode cX2_gridFault 148 = .ok (.iload_n 3, 1) := by decide +kernel
theorem dX2_gridFault_149 : decode cX2_gridFault 149 = .ok (.invokevirtual 100, 3) := by decide +kernel
theorem dX2_gridFault_152 : decode cX2_gridFault 152 = .ok (.ireturn, 1) := by decide +kernel
theorem dX2_linkFault_0 : decode cX2_linkFault 0 = .ok (.aload_n 0, 1) := by decide +kernel
theorem dX2_linkFault_1 : decode cX2_linkFault 1 = .ok (.getfield 22, 3) := by decide +kernel
theorem dX2_linkFault_4 : decode cX2_linkFault 4 = .ok (.aload_n 0, 1) := by decide +kernel
theorem dX2_linkFault_5 : decode cX2_linkFault 5 = .ok (.getfield 29, 3) := by decide +kernel
theorem dX2_linkFault_8 : decode cX2_linkFault 8 = .ok (.iconst 4, 1) := by decide +kernel
theorem dX2_linkFault_9 : decode cX2_linkFault 9 = .ok (.imul, 1) := by decide +kernel
theorem dX2_linkFault_10 : decode cX2_linkFault 10 = .ok (.iaload, 1) := by decide +kernel
theorem dX2_linkFault_11 : decode cX2_linkFault 11 = .ok (.istore_n 3, 1) := by decide +kernel
theorem dX2_linkFault_12 : decode cX2_linkFault 12 = .ok (.iload_n 1, 1) := by decide +kernel
theorem dX2_linkFault_13 : decode cX2_linkFault 13 = .ok (.iconst 2, 1) := by decide +kernel
theorem dX2_linkFault_14 : decode cX2_linkFault 14 = .ok (.if_icmp .ne 40, 3) := by decide +kernel
theorem dX2_linkFault_17 : decode cX2_linkFault 17 = .ok (.iload_n 2, 1) := by decide +kernel
theorem dX2_linkFault_18 : decode cX2_linkFault 18 = .ok (.iconst 1, 1) := by decide +kernel
theorem dX2_linkFault_19 : decode cX2_linkFault 19 = .ok (.if_icmp .lt 9, 3) := by decide +kernel
theorem dX2_linkFault_22 : decode cX2_linkFault 22 = .ok (.iload_n 2, 1) := by decide +kernel
theorem dX2_linkFault_23 : decode cX2_linkFault 23 = .ok (.bipush 99, 2) := by decide +kernel
theorem dX2_linkFault_25 : decode cX2_linkFault 25 = .ok (.if_icmp .le 5, 3) := by decide +kernel
theorem dX2_linkFault_28 : decode cX2_linkFault 28 = .ok (.iconst 3, 1) := by decide +kernel
theorem dX2_linkFault_29 : decode cX2_linkFault 29 = .ok (.ireturn, 1) := by decide +kernel
theorem dX2_linkFault_30 : decode cX2_linkFault 30 = .ok (.aload_n 0, 1) := by decide +kernel
theorem dX2_linkFault_31 : decode cX2_linkFault 31 = .ok (.getfield 12, 3) := by decide +kernel
theorem dX2_linkFault_34 : decode cX2_linkFault 34 = .ok (.iload_n 3, 1) := by decide +kernel
theorem dX2_linkFault_35 : decode cX2_linkFault 35 = .ok (.aload_n 0, 1) := by decide +kernel
theorem dX2_linkFault_36 : decode cX2_linkFault 36 = .ok (.getfield 22, 3) := by decide +kernel
theorem dX2_linkFault_39 : decode cX2_linkFault 39 = .ok (.aload_n 0, 1) := by decide +kernel
theorem dX2_linkFault_40 : decode cX2_linkFault 40 = .ok (.getfield 29, 3) := by decide +kernel
theorem dX2_linkFault_43 : decode cX2_linkFault 43 = .ok (.iconst 4, 1) := by decide +kernel
theorem dX2_linkFault_44 : decode cX2_linkFault 44 = .ok (.imul, 1) := by decide +kernel
theorem dX2_linkFault_45 : decode cX2_linkFault 45 = .ok (.iconst 1, 1) := by decide +kernel
theorem dX2_linkFault_46 : decode cX2_linkFault 46 = .ok (.iadd, 1) := by decide +kernel
theorem dX2_linkFault_47 : decode cX2_linkFault 47 = .ok (.iaload, 1) := by decide +kernel
theorem dX2_linkFault_48 : decode cX2_linkFault 48 = .ok (.iload_n 2, 1) := by decide +kernel
theorem dX2_linkFault_49 : decode cX2_linkFault 49 = .ok (.invokevirtual 104, 3) := by decide +kernel
theorem dX2_linkFault_52 : decode cX2_linkFault 52 = .ok (.iconst 0, 1) := by decide +kernel
theorem dX2_linkFault_53 : decode cX2_linkFault 53 = .ok (.ireturn, 1) := by decide +kernel
theorem dX2_linkFault_54 : decode cX2_linkFault 54 = .ok (.iload_n 2, 1) := by decide +kernel
theorem dX2_linkFault_55 : decode cX2_linkFault 55 = .ok (.aload_n 0, 1) := by decide +kernel
theorem dX2_linkFault_56 : decode cX2_linkFault 56 = .ok (.getfield 12, 3) := by decide +kernel
theorem dX2_linkFault_59 : decode cX2_linkFault 59 = .ok (.getfield 88, 3) := by decide +kernel
theorem dX2_linkFault_62 : decode cX2_linkFault 62 = .ok (.if_icmp .lt 5, 3) := by decide +kernel
theorem dX2_linkFault_65 : decode cX2_linkFault 65 = .ok (.iconst 3, 1) := by decide +kernel
theorem dX2_linkFault_66 : decode cX2_linkFault 66 = .ok (.ireturn, 1) := by decide +kernel
theorem dX2_linkFault_67 : decode cX2_linkFault 67 = .ok (.iload_n 1, 1) := by decide +kernel
theorem dX2_linkFault_68 : decode cX2_linkFault 68 = .ok (.iconst 1, 1) := by decide +kernel
theorem dX2_linkFault_69 : decode cX2_linkFault 69 = .ok (.if_icmp .ne 25, 3) := by decide +kernel
theorem dX2_linkFault_72 : decode cX2_linkFault 72 = .ok (.iload_n 2, 1) := by decide +kernel
theorem dX2_linkFault_73 : decode cX2_linkFault 73 = .ok (.iload_n 3, 1) := by decide +kernel
theorem dX2_linkFault_74 : decode cX2_linkFault 74 = .ok (.if_icmp .eq 15, 3) := by decide +kernel
theorem dX2_linkFault_77 : decode cX2_linkFault 77 = .ok (.aload_n 0, 1) := by decide +kernel
theorem dX2_linkFault_78 : decode cX2_linkFault 78 = .ok (.getfield 12, 3) := by decide +kernel
theorem dX2_linkFault_81 : decode cX2_linkFault 81 = .ok (.iload_n 3, 1) := by decide +kernel
theorem dX2_linkFault_82 : decode cX2_linkFault 82 = .ok (.iload_n 2, 1) := by decide +kernel
theorem dX2_linkFault_83 : decode cX2_linkFault 83 = .ok (.invokevirtual 108, 3) := by decide +kernel
theorem dX2_linkFault_86 : decode cX2_linkFault 86 = .ok (.ifCond .eq 8, 3) := by decide +kernel
theorem dX2_linkFault_89 : decode cX2_linkFault 89 = .ok (.bipush 6, 2) := by decide +kernel
theorem dX2_linkFault_91 : decode cX2_linkFault 91 = .ok (.goto 4, 3) := by decide +kernel
theorem dX2_linkFault_94 : decode cX2_linkFault 94 = .ok (.iconst 0, 1) := by decide +kernel
theorem dX2_linkFault_95 : decode cX2_linkFault 95 = .ok (.ireturn, 1) := by decide +kernel
theorem dX2_wordFrom_0 : decode cX2_wordFrom 0 = .ok (.aload_n 0, 1) := by decide +kernel
theorem dX2_wordFrom_1 : decode cX2_wordFrom 1 = .ok (.getfield 25, 3) := by decide +kernel
theorem dX2_wordFrom_4 : decode cX2_wordFrom 4 = .ok (.ifCond .eq 10, 3) := by decide +kernel
theorem dX2_wordFrom_7 : decode cX2_wordFrom 7 = .ok (.getstatic 69, 3) := by decide +kernel
theorem dX2_wordFrom_10 : decode cX2_wordFrom 10 = .ok (.arraylength, 1) := by decide +kernel
theorem dX2_wordFrom_11 : decode cX2_wordFrom 11 = .ok (.goto 7, 3) := by decide +kernel
theorem dX2_wordFrom_14 : decode cX2_wordFrom 14 = .ok (.getstatic 72, 3) := by decide +kernel
theorem dX2_wordFrom_17 : decode cX2_wordFrom 17 = .ok (.arraylength, 1) := by decide +kernel
theorem dX2_wordFrom_18 : decode cX2_wordFrom 18 = .ok (.istore_n 2, 1) := by decide +kernel
theorem dX2_wordFrom_19 : decode cX2_wordFrom 19 = .ok (.iconst 0, 1) := by decide +kernel
theorem dX2_wordFrom_20 : decode cX2_wordFrom 20 = .ok (.istore_n 3, 1) := by decide +kernel
theorem dX2_wordFrom_21 : decode cX2_wordFrom 21 = .ok (.iload_n 3, 1) := by decide +kernel
theorem dX2_wordFrom_22 : decode cX2_wordFrom 22 = .ok (.iload_n 2, 1) := by decide +kernel
theorem dX2_wordFrom_23 : decode cX2_wordFrom 23 = .ok (.if_icmp .ge 37, 3) := by decide +kernel
theorem dX2_wordFrom_26 : decode cX2_wordFrom 26 = .ok (.aload_n 0, 1) := by decide +kernel
theorem dX2_wordFrom_27 : decode cX2_wordFrom 27 = .ok (.iload_n 1, 1) := by decide +kernel
theorem dX2_wordFrom_28 : decode cX2_wordFrom 28 = .ok (.aload_n 0, 1) := by decide +kernel
theorem dX2_wordFrom_29 : decode cX2_wordFrom 29 = .ok (.getfield 25, 3) := by decide +kernel
theorem dX2_wordFrom_32 : decode cX2_wordFrom 32 = .ok (.ifCond .eq 10, 3) := by decide +kernel
theorem dX2_wordFrom_35 : decode cX2_wordFrom 35 = .ok (.iload_n 3, 1) := by decide +kernel
theorem dX2_wordFrom_36 : decode cX2_wordFrom 36 = .ok (.invokestatic 112, 3) := by decide +kernel
theorem dX2_wordFrom_39 : decode cX2_wordFrom 39 = .ok (.goto 7, 3) := by decide +kernel
theorem dX2_wordFrom_42 : decode cX2_wordFrom 42 = .ok (.iload_n 3, 1) := by decide +kernel
theorem dX2_wordFrom_43 : decode cX2_wordFrom 43 = .ok (.invokestatic 116, 3) := by decide +kernel
theorem dX2_wordFrom_46 : decode cX2_wordFrom 46 = .ok (.invokevirtual 119, 3) := by decide +kernel
theorem dX2_wordFrom_49 : decode cX2_wordFrom 49 = .ok (.ifCond .eq 5, 3) := by decide +kernel
theorem dX2_wordFrom_52 : decode cX2_wordFrom 52 = .ok (.iload_n 3, 1) := by decide +kernel
theorem dX2_wordFrom_53 : decode cX2_wordFrom 53 = .ok (.ireturn, 1) := by decide +kernel
theorem dX2_wordFrom_54 : decode cX2_wordFrom 54 = .ok (.iinc 3 1, 3) := by decide +kernel
theorem dX2_wordFrom_57 : decode cX2_wordFrom 57 = .ok (.goto (-36), 3) := by decide +kernel
theorem dX2_wordFrom_60 : decode cX2_wordFrom 60 = .ok (.iconst (-1), 1) := by decide +kernel
theorem dX2_wordFrom_61 : decode cX2_wordFrom 61 = .ok (.ireturn, 1) := by decide +kernel
theorem dX2_isWord_0 : decode cX2_isWord 0 = .ok (.aload_n 0, 1) := by decide +kernel
theorem dX2_isWord_1 : decode cX2_isWord 1 = .ok (.getfield 36, 3) := by decide +kernel
theorem dX2_isWord_4 : decode cX2_isWord 4 = .ok (.iload_n 1, 1) := by decide +kernel
theorem dX2_isWord_5 : decode cX2_isWord 5 = .ok (.isub, 1) := by decide +kernel
theorem dX2_isWord_6 : decode cX2_isWord 6 = .ok (.aload_n 2, 1) := by decide +kernel
theorem dX2_isWord_7 : decode cX2_isWord 7 = .ok (.invokevirtual 123, 3) := by decide +kernel
theorem dX2_isWord_10 : decode cX2_isWord 10 = .ok (.if_icmp .eq 5, 3) := by decide +kernel
theorem dX2_isWord_13 : decode cX2_isWord 13 = .ok (.iconst 0, 1) := by decide +kernel
theorem dX2_isWord_14 : decode cX2_isWord 14 = .ok (.ireturn, 1) := by decide +kernel
theorem dX2_isWord_15 : decode cX2_isWord 15 = .ok (.iconst 0, 1) := by decide +kernel
theorem dX2_isWord_16 : decode cX2_isWord 16 = .ok (.istore_n 3, 1) := by decide +kernel
theorem dX2_isWord_17 : decode cX2_isWord 17 = .ok (.iload_n 3, 1) := by decide +kernel
theorem dX2_isWord_18 : decode cX2_isWord 18 = .ok (.aload_n 2, 1) := by decide +kernel
theorem dX2_isWord_19 : decode cX2_isWord 19 = .ok (.invokevirtual 123, 3) := by decide +kernel
theorem dX2_isWord_22 : decode cX2_isWord 22 = .ok (.if_icmp .ge 30, 3) := by decide +kernel
theorem dX2_isWord_25 : decode cX2_isWord 25 = .ok (.aload_n 0, 1) := by decide +kernel
theorem dX2_isWord_26 : decode cX2_isWord 26 = .ok (.getfield 42, 3) := by decide +kernel
theorem dX2_isWord_29 : decode cX2_isWord 29 = .ok (.getfield 57, 3) := by decide +kernel
theorem dX2_isWord_32 : decode cX2_isWord 32 = .ok (.iload_n 1, 1) := by decide +kernel
theorem dX2_isWord_33 : decode cX2_isWord 33 = .ok (.iload_n 3, 1) := by decide +kernel
theorem dX2_isWord_34 : decode cX2_isWord 34 = .ok (.iadd, 1) := by decide +kernel
theorem dX2_isWord_35 : decode cX2_isWord 35 = .ok (.iaload, 1) := by decide +kernel
theorem dX2_isWord_36 : decode cX2_isWord 36 = .ok (.aload_n 2, 1) := by decide +kernel
theorem dX2_isWord_37 : decode cX2_isWord 37 = .ok (.iload_n 3, 1) := by decide +kernel
theorem dX2_isWord_38 : decode cX2_isWord 38 = .ok (.invokevirtual 129, 3) := by decide +kernel
theorem dX2_isWord_41 : decode cX2_isWord 41 = .ok (.if_icmp .eq 5, 3) := by decide +kernel
theorem dX2_isWord_44 : decode cX2_isWord 44 = .ok (.iconst 0, 1) := by decide +kernel
theorem dX2_isWord_45 : decode cX2_isWord 45 = .ok (.ireturn, 1) := by decide +kernel
theorem dX2_isWord_46 : decode cX2_isWord 46 = .ok (.iinc 3 1, 3) := by decide +kernel
theorem dX2_isWord_49 : decode cX2_isWord 49 = .ok (.goto (-32), 3) := by decide +kernel
theorem dX2_isWord_52 : decode cX2_isWord 52 = .ok (.iconst 1, 1) := by decide +kernel
theorem dX2_isWord_53 : decode cX2_isWord 53 = .ok (.ireturn, 1) := by decide +kernel
theorem dX2_gridWord_0 : decode cX2_gridWord 0 = .ok (.iload_n 0, 1) := by decide +kernel
theorem dX2_gridWord_1 : decode cX2_gridWord 1 = .ok (.tableswitch 43 0 3 #[31, 34, 37, 40], 31) := by decide +kernel
theorem dX2_gridWord_32 : decode cX2_gridWord 32 = .ok (.ldc 133, 2) := by decide +kernel
theorem dX2_gridWord_34 : decode cX2_gridWord 34 = .ok (.areturn, 1) := by decide +kernel
theorem dX2_gridWord_35 : decode cX2_gridWord 35 = .ok (.ldc 134, 2) := by decide +kernel
theorem dX2_gridWord_37 : decode cX2_gridWord 37 = .ok (.areturn, 1) := by decide +kernel
theorem dX2_gridWord_38 : decode cX2_gridWord 38 = .ok (.ldc 135, 2) := by decide +kernel
theorem dX2_gridWord_40 : decode cX2_gridWord 40 = .ok (.areturn, 1) := by decide +kernel
theorem dX2_gridWord_41 : decode cX2_gridWord 41 = .ok (.ldc 136, 2) := by decide +kernel
theorem dX2_gridWord_43 : decode cX2_gridWord 43 = .ok (.areturn, 1) := by decide +kernel
theorem dX2_gridWord_44 : decode cX2_gridWord 44 = .ok (.ldc 137, 2) := by decide +kernel
theorem dX2_gridWord_46 : decode cX2_gridWord 46 = .ok (.areturn, 1) := by decide +kernel
theorem dX2_stepWord_0 : decode cX2_stepWord 0 = .ok (.iload_n 0, 1) := by decide +kernel
theorem dX2_stepWord_1 : decode cX2_stepWord 1 = .ok (.tableswitch 85 0 9 #[55, 58, 61, 64, 67, 70, 73, 76, 79, 82], 55) := by decide +kernel
theorem dX2_stepWord_56 : decode cX2_stepWord 56 = .ok (.ldc 139, 2) := by decide +kernel
theorem dX2_stepWord_58 : decode cX2_stepWord 58 = .ok (.areturn, 1) := by decide +kernel
theorem dX2_stepWord_59 : decode cX2_stepWord 59 = .ok (.ldc 141, 2) := by decide +kernel
theorem dX2_stepWord_61 : decode cX2_stepWord 61 = .ok (.areturn, 1) := by decide +kernel
theorem dX2_stepWord_62 : decode cX2_stepWord 62 = .ok (.ldc 143, 2) := by decide +kernel
theorem dX2_stepWord_64 : decode cX2_stepWord 64 = .ok (.areturn, 1) := by decide +kernel
theorem dX2_stepWord_65 : decode cX2_stepWord 65 = .ok (.ldc 145, 2) := by decide +kernel
theorem dX2_stepWord_67 : decode cX2_stepWord 67 = .ok (.areturn, 1) := by decide +kernel
theorem dX2_stepWord_68 : decode cX2_stepWord 68 = .ok (.ldc 147, 2) := by decide +kernel
theorem dX2_stepWord_70 : decode cX2_stepWord 70 = .ok (.areturn, 1) := by decide +kernel
theorem dX2_stepWord_71 : decode cX2_stepWord 71 = .ok (.ldc 149, 2) := by decide +kernel
theorem dX2_stepWord_73 : decode cX2_stepWord 73 = .ok (.areturn, 1) := by decide +kernel
theorem dX2_stepWord_74 : decode cX2_stepWord 74 = .ok (.ldc 151, 2) := by decide +kernel
theorem dX2_stepWord_76 : decode cX2_stepWord 76 = .ok (.areturn, 1) := by decide +kernel
theorem dX2_stepWord_77 : decode cX2_stepWord 77 = .ok (.ldc 153, 2) := by decide +kernel
theorem dX2_stepWord_79 : decode cX2_stepWord 79 = .ok (.areturn, 1) := by decide +kernel
theorem dX2_stepWord_80 : decode cX2_stepWord 80 = .ok (.ldc 155, 2) := by decide +kernel
theorem dX2_stepWord_82 : decode cX2_stepWord 82 = .ok (.areturn, 1) := by decide +kernel
theorem dX2_stepWord_83 : decode cX2_stepWord 83 = .ok (.ldc 157, 2) := by decide +kernel
theorem dX2_stepWord_85 : decode cX2_stepWord 85 = .ok (.areturn, 1) := by decide +kernel
theorem dX2_stepWord_86 : decode cX2_stepWord 86 = .ok (.ldc 159, 2) := by decide +kernel
theorem dX2_stepWord_88 : decode cX2_stepWord 88 = .ok (.areturn, 1) := by decide +kernel
theorem dX3_init_0 : decode cX3_init 0 = .ok (.aload_n 0, 1) := by decide +kernel
theorem dX3_init_1 : decode cX3_init 1 = .ok (.invokespecial 3, 3) := by decide +kernel
theorem dX3_init_4 : decode cX3_init 4 = .ok (.aload_n 0, 1) := by decide +kernel
theorem dX3_init_5 : decode cX3_init 5 = .ok (.new 9, 3) := by decide +kernel
theorem dX3_init_8 : decode cX3_init 8 = .ok (.dup, 1) := by decide +kernel
theorem dX3_init_9 : decode cX3_init 9 = .ok (.invokespecial 11, 3) := by decide +kernel
theorem dX3_init_12 : decode cX3_init 12 = .ok (.putfield 12, 3) := by decide +kernel
theorem dX3_init_15 : decode cX3_init 15 = .ok (.aload_n 0, 1) := by decide +kernel
theorem dX3_init_16 : decode cX3_init 16 = .ok (.lconst 0, 1) := by decide +kernel
theorem dX3_init_17 : decode cX3_init 17 = .ok (.putfield 18, 3) := by decide +kernel
theorem dX3_init_20 : decode cX3_init 20 = .ok (.aload_n 0, 1) := by decide +kernel
theorem dX3_init_21 : decode cX3_init 21 = .ok (.lconst 0, 1) := by decide +kernel
theorem dX3_init_22 : decode cX3_init 22 = .ok (.putfield 22, 3) := by decide +kernel
theorem dX3_init_25 : decode cX3_init 25 = .ok (.aload_n 0, 1) := by decide +kernel
theorem dX3_init_26 : decode cX3_init 26 = .ok (.bipush 40, 2) := by decide +kernel
theorem dX3_init_28 : decode cX3_init 28 = .ok (.newarray .long, 2) := by decide +kernel
theorem dX3_init_30 : decode cX3_init 30 = .ok (.putfield 25, 3) := by decide +kernel
theorem dX3_init_33 : decode cX3_init 33 = .ok (.aload_n 0, 1) := by decide +kernel
theorem dX3_init_34 : decode cX3_init 34 = .ok (.bipush 40, 2) := by decide +kernel
theorem dX3_init_36 : decode cX3_init 36 = .ok (.newarray .int, 2) := by decide +kernel
theorem dX3_init_38 : decode cX3_init 38 = .ok (.putfield 29, 3) := by decide +kernel
theorem dX3_init_41 : decode cX3_init 41 = .ok (.aload_n 0, 1) := by decide +kernel
theorem dX3_init_42 : decode cX3_init 42 = .ok (.iconst 0, 1) := by decide +kernel
theorem dX3_init_43 : decode cX3_init 43 = .ok (.putfield 33, 3) := by decide +kernel
theorem dX3_init_46 : decode cX3_init 46 = .ok (.aload_n 0, 1) := by decide +kernel
theorem dX3_init_47 : decode cX3_init 47 = .ok (.aload_n 1, 1) := by decide +kernel
theorem dX3_init_48 : decode cX3_init 48 = .ok (.putfield 37, 3) := by decide +kernel
theorem dX3_init_51 : decode cX3_init 51 = .ok (.aload_n 0, 1) := by decide +kernel
theorem dX3_init_52 : decode cX3_init 52 = .ok (.aload_n 2, 1) := by decide +kernel
theorem dX3_init_53 : decode cX3_init 53 = .ok (.putfield 40, 3) := by decide +kernel
theorem dX3_init_56 : decode cX3_init 56 = .ok (.return_, 1) := by decide +kernel
theorem dX3_lay_0 : decode cX3_lay 0 = .ok (.aload_n 0, 1) := by decide +kernel
theorem dX3_lay_1 : decode cX3_lay 1 = .ok (.getfield 37, 3) := by decide +kernel
theorem dX3_lay_4 : decode cX3_lay 4 = .ok (.aload_n 1, 1) := by decide +kernel
theorem dX3_lay_5 : decode cX3_lay 5 = .ok (.invokevirtual 44, 3) := by decide +kernel
theorem dX3_lay_8 : decode cX3_lay 8 = .ok (.aload_n 0, 1) := by decide +kernel
theorem dX3_lay_9 : decode cX3_lay 9 = .ok (.getfield 12, 3) := by decide +kernel
theorem dX3_lay_12 : decode cX3_lay 12 = .ok (.aload_n 1, 1) := by decide +kernel
theorem dX3_lay_13 : decode cX3_lay 13 = .ok (.invokevirtual 44, 3) := by decide +kernel
theorem dX3_lay_16 : decode cX3_lay 16 = .ok (.aload_n 0, 1) := by decide +kernel
theorem dX3_lay_17 : decode cX3_lay 17 = .ok (.getfield 12, 3) := by decide +kernel
theorem dX3_lay_20 : decode cX3_lay 20 = .ok (.invokevirtual 48, 3) := by decide +kernel
theorem dX3_lay_23 : decode cX3_lay 23 = .ok (.iconst 0, 1) := by decide +kernel
theorem dX3_lay_24 : decode cX3_lay 24 = .ok (.istore_n 3, 1) := by decide +kernel
theorem dX3_lay_25 : decode cX3_lay 25 = .ok (.iload_n 3, 1) := by decide +kernel
theorem dX3_lay_26 : decode cX3_lay 26 = .ok (.aload_n 0, 1) := by decide +kernel
theorem dX3_lay_27 : decode cX3_lay 27 = .ok (.getfield 37, 3) := by decide +kernel
theorem dX3_lay_30 : decode cX3_lay 30 = .ok (.getfield 51, 3) := by decide +kernel
theorem dX3_lay_33 : decode cX3_lay 33 = .ok (.if_icmp .ge 19, 3) := by decide +kernel
theorem dX3_lay_36 : decode cX3_lay 36 = .ok (.aload_n 0, 1) := by decide +kernel
theorem dX3_lay_37 : decode cX3_lay 37 = .ok (.getfield 12, 3) := by decide +kernel
theorem dX3_lay_40 : decode cX3_lay 40 = .ok (.getfield 54, 3) := by decide +kernel
theorem dX3_lay_43 : decode cX3_lay 43 = .ok (.iload_n 3, 1) := by decide +kernel
theorem dX3_lay_44 : decode cX3_lay 44 = .ok (.iconst 3, 1) := by decide +kernel
theorem dX3_lay_45 : decode cX3_lay 45 = .ok (.iastore, 1) := by decide +kernel
theorem dX3_lay_46 : decode cX3_lay 46 = .ok (.iinc 3 1, 3) := by decide +kernel
theorem dX3_lay_49 : decode cX3_lay 49 = .ok (.goto (-24), 3) := by decide +kernel
theorem dX3_lay_52 : decode cX3_lay 52 = .ok (.aload_n 0, 1) := by decide +kernel
theorem dX3_lay_53 : decode cX3_lay 53 = .ok (.lconst 0, 1) := by decide +kernel
theorem dX3_lay_54 : decode cX3_lay 54 = .ok (.putfield 18, 3) := by decide +kernel
theorem dX3_lay_57 : decode cX3_lay 57 = .ok (.iconst 0, 1) := by decide +kernel
theorem dX3_lay_58 : decode cX3_lay 58 = .ok (.istore_n 3, 1) := by decide +kernel
theorem dX3_lay_59 : decode cX3_lay 59 = .ok (.iload_n 3, 1) := by decide +kernel
theorem dX3_lay_60 : decode cX3_lay 60 = .ok (.aload_n 0, 1) := by decide +kernel
theorem dX3_lay_61 : decode cX3_lay 61 = .ok (.getfield 37, 3) := by decide +kernel
theorem dX3_lay_64 : decode cX3_lay 64 = .ok (.getfield 51, 3) := by decide +kernel
theorem dX3_lay_67 : decode cX3_lay 67 = .ok (.if_icmp .ge 81, 3) := by decide +kernel
theorem dX3_lay_70 : decode cX3_lay 70 = .ok (.aload_n 0, 1) := by decide +kernel
theorem dX3_lay_71 : decode cX3_lay 71 = .ok (.getfield 37, 3) := by decide +kernel
theorem dX3_lay_74 : decode cX3_lay 74 = .ok (.getfield 54, 3) := by decide +kernel
theorem dX3_lay_77 : decode cX3_lay 77 = .ok (.iload_n 3, 1) := by decide +kernel
theorem dX3_lay_78 : decode cX3_lay 78 = .ok (.iaload, 1) := by decide +kernel
theorem dX3_lay_79 : decode cX3_lay 79 = .ok (.ifCond .ne 63, 3) := by decide +kernel
theorem dX3_lay_82 : decode cX3_lay 82 = .ok (.aload_n 0, 1) := by decide +kernel
theorem dX3_lay_83 : decode cX3_lay 83 = .ok (.getfield 40, 3) := by decide +kernel
theorem dX3_lay_86 : decode cX3_lay 86 = .ok (.aload_n 0, 1) := by decide +kernel
theorem dX3_lay_87 : decode cX3_lay 87 = .ok (.getfield 12, 3) := by decide +kernel
theorem dX3_lay_90 : decode cX3_lay 90 = .ok (.aload_n 0, 1) := by decide +kernel
theorem dX3_lay_91 : decode cX3_lay 91 = .ok (.getfield 37, 3) := by decide +kernel
theorem dX3_lay_94 : decode cX3_lay 94 = .ok (.getfield 57, 3) := by decide +kernel
theorem dX3_lay_97 : decode cX3_lay 97 = .ok (.iload_n 3, 1) := by decide +kernel
theorem dX3_lay_98 : decode cX3_lay 98 = .ok (.iaload, 1) := by decide +kernel
theorem dX3_lay_99 : decode cX3_lay 99 = .ok (.aload_n 0, 1) := by decide +kernel
theorem dX3_lay_100 : decode cX3_lay 100 = .ok (.getfield 37, 3) := by decide +kernel
theorem dX3_lay_103 : decode cX3_lay 103 = .ok (.getfield 60, 3) := by decide +kernel
theorem dX3_lay_106 : decode cX3_lay 106 = .ok (.iload_n 3, 1) := by decide +kernel
theorem dX3_lay_107 : decode cX3_lay 107 = .ok (.iaload, 1) := by decide +kernel
theorem dX3_lay_108 : decode cX3_lay 108 = .ok (.aload_n 0, 1) := by decide +kernel
theorem dX3_lay_109 : decode cX3_lay 109 = .ok (.getfield 37, 3) := by decide +kernel
theorem dX3_lay_112 : decode cX3_lay 112 = .ok (.getfield 63, 3) := by decide +kernel
theorem dX3_lay_115 : decode cX3_lay 115 = .ok (.iload_n 3, 1) := by decide +kernel
theorem dX3_lay_116 : decode cX3_lay 116 = .ok (.iaload, 1) := by decide +kernel
theorem dX3_lay_117 : decode cX3_lay 117 = .ok (.iload_n 2, 1) := by decide +kernel
theorem dX3_lay_118 : decode cX3_lay 118 = .ok (.invokevirtual 66, 3) := by decide +kernel
theorem dX3_lay_121 : decode cX3_lay 121 = .ok (.ifCond .eq 11, 3) := by decide +kernel
theorem dX3_lay_124 : decode cX3_lay 124 = .ok (.aload_n 0, 1) := by decide +kernel
theorem dX3_lay_125 : decode cX3_lay 125 = .ok (.iload_n 3, 1) := by decide +kernel
theorem dX3_lay_126 : decode cX3_lay 126 = .ok (.invokevirtual 72, 3) := by decide +kernel
theorem dX3_lay_129 : decode cX3_lay 129 = .ok (.goto 13, 3) := by decide +kernel
theorem dX3_lay_132 : decode cX3_lay 132 = .ok (.aload_n 0, 1) := by decide +kernel
theorem dX3_lay_133 : decode cX3_lay 133 = .ok (.iload_n 3, 1) := by decide +kernel
theorem dX3_lay_134 : decode cX3_lay 134 = .ok (.invokevirtual 76, 3) := by decide +kernel
theorem dX3_lay_137 : decode cX3_lay 137 = .ok (.ifCond .ne 5, 3) := by decide +kernel
theorem dX3_lay_140 : decode cX3_lay 140 = .ok (.iconst 0, 1) := by decide +kernel
theorem dX3_lay_141 : decode cX3_lay 141 = .ok (.ireturn, 1) := by decide +kernel
theorem dX3_lay_142 : decode cX3_lay 142 = .ok (.iinc 3 1, 3) := by decide +kernel
theorem dX3_lay_145 : decode cX3_lay 145 = .ok (.goto (-86), 3) := by decide +kernel
theorem dX3_lay_148 : decode cX3_lay 148 = .ok (.aload_n 0, 1) := by decide +kernel
theorem dX3_lay_149 : decode cX3_lay 149 = .ok (.iconst 0, 1) := by decide +kernel
theorem dX3_lay_150 : decode cX3_lay 150 = .ok (.putfield 33, 3) := by decide +kernel
theorem dX3_lay_153 : decode cX3_lay 153 = .ok (.aload_n 0, 1) := by decide +kernel
theorem dX3_lay_154 : decode cX3_lay 154 = .ok (.lconst 0, 1) := by decide +kernel
theorem dX3_lay_155 : decode cX3_lay 155 = .ok (.putfield 22, 3) := by decide +kernel
theorem dX3_lay_158 : decode cX3_lay 158 = .ok (.iconst 0, 1) := by decide +kernel
theorem dX3_lay_159 : decode cX3_lay 159 = .ok (.istore_n 3, 1) := by decide +kernel
theorem dX3_lay_160 : decode cX3_lay 160 = .ok (.iload_n 3, 1) := by decide +kernel
theorem dX3_lay_161 : decode cX3_lay 161 = .ok (.aload_n 0, 1) := by decide +kernel
theorem dX3_lay_162 : decode cX3_lay 162 = .ok (.getfield 37, 3) := by decide +kernel
theorem dX3_lay_165 : decode cX3_lay 165 = .ok (.getfield 51, 3) := by decide +kernel
theorem dX3_lay_168 : decode cX3_lay 168 = .ok (.if_icmp .ge 37, 3) := by decide +kernel
theorem dX3_lay_171 : decode cX3_lay 171 = .ok (.aload_n 0, 1) := by decide +kernel
theorem dX3_lay_172 : decode cX3_lay 172 = .ok (.getfield 25, 3) := by decide +kernel
theorem dX3_lay_175 : decode cX3_lay 175 = .ok (.iload_n 3, 1) := by decide +kernel
theorem dX3_lay_176 : decode cX3_lay 176 = .ok (.aload_n 0, 1) := by decide +kernel
theorem dX3_lay_177 : decode cX3_lay 177 = .ok (.getfield 18, 3) := by decide +kernel
theorem dX3_lay_180 : decode cX3_lay 180 = .ok (.iload_n 3, 1) := by decide +kernel
theorem dX3_lay_181 : decode cX3_lay 181 = .ok (.lushr, 1) := by decide +kernel
theorem dX3_lay_182 : decode cX3_lay 182 = .ok (.lconst 1, 1) := by decide +kernel
theorem dX3_lay_183 : decode cX3_lay 183 = .ok (.land, 1) := by decide +kernel
theorem dX3_lay_184 : decode cX3_lay 184 = .ok (.lconst 0, 1) := by decide +kernel
theorem dX3_lay_185 : decode cX3_lay 185 = .ok (.lcmp, 1) := by decide +kernel
theorem dX3_lay_186 : decode cX3_lay 186 = .ok (.ifCond .eq 11, 3) := by decide +kernel
theorem dX3_lay_189 : decode cX3_lay 189 = .ok (.aload_n 0, 1) := by decide +kernel
theorem dX3_lay_190 : decode cX3_lay 190 = .ok (.iload_n 3, 1) := by decide +kernel
theorem dX3_lay_191 : decode cX3_lay 191 = .ok (.invokevirtual 80, 3) := by decide +kernel
theorem dX3_lay_194 : decode cX3_lay 194 = .ok (.goto 4, 3) := by decide +kernel
theorem dX3_lay_197 : decode cX3_lay 197 = .ok (.lconst 0, 1) := by decide +kernel
theorem dX3_lay_198 : decode cX3_lay 198 = .ok (.lastore, 1) := by decide +kernel
theorem dX3_lay_199 : decode cX3_lay 199 = .ok (.iinc 3 1, 3) := by decide +kernel
theorem dX3_lay_202 : decode cX3_lay 202 = .ok (.goto (-42), 3) := by decide +kernel
theorem dX3_lay_205 : decode cX3_lay 205 = .ok (.iconst 1, 1) := by decide +kernel
theorem dX3_lay_206 : decode cX3_lay 206 = .ok (.ireturn, 1) := by decide +kernel
theorem dX3_aim_0 : decode cX3_aim 0 = .ok (.aload_n 0, 1) := by decide +kernel
theorem dX3_aim_1 : decode cX3_aim 1 = .ok (.getfield 12, 3) := by decide +kernel
theorem dX3_aim_4 : decode cX3_aim 4 = .ok (.iload_n 1, 1) := by decide +kernel
theorem dX3_aim_5 : decode cX3_aim 5 = .ok (.aload_n 0, 1) := by decide +kernel
theorem dX3_aim_6 : decode cX3_aim 6 = .ok (.getfield 40, 3) := by decide +kernel
theorem dX3_aim_9 : decode cX3_aim 9 = .ok (.getfield 84, 3) := by decide +kernel
theorem dX3_aim_12 : decode cX3_aim 12 = .ok (.aload_n 0, 1) := by decide +kernel
theorem dX3_aim_13 : decode cX3_aim 13 = .ok (.getfield 40, 3) := by decide +kernel
theorem dX3_aim_16 : decode cX3_aim 16 = .ok (.getfield 87, 3) := by decide +kernel
theorem dX3_aim_19 : decode cX3_aim 19 = .ok (.aload_n 0, 1) := by decide +kernel
theorem dX3_aim_20 : decode cX3_aim 20 = .ok (.getfield 40, 3) := by decide +kernel
theorem dX3_aim_23 : decode cX3_aim 23 = .ok (.getfield 90, 3) := by decide +kernel
theorem dX3_aim_26 : decode cX3_aim 26 = .ok (.invokevirtual 93, 3) := by decide +kernel
theorem dX3_aim_29 : decode cX3_aim 29 = .ok (.aload_n 0, 1) := by decide +kernel
theorem dX3_aim_30 : decode cX3_aim 30 = .ok (.getfield 40, 3) := by decide +kernel
theorem dX3_aim_33 : decode cX3_aim 33 = .ok (.getfield 84, 3) := by decide +kernel
theorem dX3_aim_36 : decode cX3_aim 36 = .ok (.aload_n 0, 1) := by decide +kernel
theorem dX3_aim_37 : decode cX3_aim 37 = .ok (.getfield 37, 3) := by decide +kernel
theorem dX3_aim_40 : decode cX3_aim 40 = .ok (.getfield 97, 3) := by decide +kernel
theorem dX3_aim_43 : decode cX3_aim 43 = .ok (.iload_n 1, 1) := by decide +kernel
theorem dX3_aim_44 : decode cX3_aim 44 = .ok (.iaload, 1) := by decide +kernel
theorem dX3_aim_45 : decode cX3_aim 45 = .ok (.if_icmp .ne 41, 3) := by decide +kernel
theorem dX3_aim_48 : decode cX3_aim 48 = .ok (.aload_n 0, 1) := by decide +kernel
theorem dX3_aim_49 : decode cX3_aim 49 = .ok (.getfield 40, 3) := by decide +kernel
theorem dX3_aim_52 : decode cX3_aim 52 = .ok (.getfield 87, 3) := by decide +kernel
theorem dX3_aim_55 : decode cX3_aim 55 = .ok (.aload_n 0, 1) := by decide +kernel
theorem dX3_aim_56 : decode cX3_aim 56 = .ok (.getfield 37, 3) := by decide +kernel
theorem dX3_aim_59 : decode cX3_aim 59 = .ok (.getfield 99, 3) := by decide +kernel
theorem dX3_aim_62 : decode cX3_aim 62 = .ok (.iload_n 1, 1) := by decide +kernel
theorem dX3_aim_63 : decode cX3_aim 63 = .ok (.iaload, 1) := by decide +kernel
theorem dX3_aim_64 : decode cX3_aim 64 = .ok (.if_icmp .ne 22, 3) := by decide +kernel
theorem dX3_aim_67 : decode cX3_aim 67 = .ok (.aload_n 0, 1) := by decide +kernel
theorem dX3_aim_68 : decode cX3_aim 68 = .ok (.getfield 40, 3) := by decide +kernel
theorem dX3_aim_71 : decode cX3_aim 71 = .ok (.getfield 90, 3) := by decide +kernel
theorem dX3_aim_74 : decode cX3_aim 74 = .ok (.aload_n 0, 1) := by decide +kernel
theorem dX3_aim_75 : decode cX3_aim 75 = .ok (.getfield 37, 3) := by decide +kernel
theorem dX3_aim_78 : decode cX3_aim 78 = .ok (.getfield 101, 3) := by decide +kernel
theorem dX3_aim_81 : decode cX3_aim 81 = .ok (.iload_n 1, 1) := by decide +kernel
theorem dX3_aim_82 : decode cX3_aim 82 = .ok (.iaload, 1) := by decide +kernel
theorem dX3_aim_83 : decode cX3_aim 83 = .ok (.if_icmp .eq 15, 3) := by decide +kernel
theorem dX3_aim_86 : decode cX3_aim 86 = .ok (.aload_n 0, 1) := by decide +kernel
theorem dX3_aim_87 : decode cX3_aim 87 = .ok (.dup, 1) := by decide +kernel
theorem dX3_aim_88 : decode cX3_aim 88 = .ok (.getfield 18, 3) := by decide +kernel
theorem dX3_aim_91 : decode cX3_aim 91 = .ok (.lconst 1, 1) := by decide +kernel
theorem dX3_aim_92 : decode cX3_aim 92 = .ok (.iload_n 1, 1) := by decide +kernel
theorem dX3_aim_93 : decode cX3_aim 93 = .ok (.lshl, 1) := by decide +kernel
theorem dX3_aim_94 : decode cX3_aim 94 = .ok (.lor, 1) := by decide +kernel
theorem dX3_aim_95 : decode cX3_aim 95 = .ok (.putfield 18, 3) := by decide +kernel
theorem dX3_aim_98 : decode cX3_aim 98 = .ok (.return_, 1) := by decide +kernel
theorem dX3_canStay_0 : decode cX3_canStay 0 = .ok (.aload_n 0, 1) := by decide +kernel
theorem dX3_canStay_1 : decode cX3_canStay 1 = .ok (.getfield 12, 3) := by decide +kernel
theorem dX3_canStay_4 : decode cX3_canStay 4 = .ok (.aload_n 0, 1) := by decide +kernel
theorem dX3_canStay_5 : decode cX3_canStay 5 = .ok (.getfield 37, 3) := by decide +kernel
theorem dX3_canStay_8 : decode cX3_canStay 8 = .ok (.getfield 97, 3) := by decide +kernel
theorem dX3_canStay_11 : decode cX3_canStay 11 = .ok (.iload_n 1, 1) := by decide +kernel
theorem dX3_canStay_12 : decode cX3_canStay 12 = .ok (.iaload, 1) := by decide +kernel
theorem dX3_canStay_13 : decode cX3_canStay 13 = .ok (.aload_n 0, 1) := by decide +kernel
theorem dX3_canStay_14 : decode cX3_canStay 14 = .ok (.getfield 37, 3) := by decide +kernel
theorem dX3_canStay_17 : decode cX3_canStay 17 = .ok (.getfield 99, 3) := by decide +kernel
theorem dX3_canStay_20 : decode cX3_canStay 20 = .ok (.iload_n 1, 1) := by decide +kernel
theorem dX3_canStay_21 : decode cX3_canStay 21 = .ok (.iaload, 1) := by decide +kernel
theorem dX3_canStay_22 : decode cX3_canStay 22 = .ok (.aload_n 0, 1) := by decide +kernel
theorem dX3_canStay_23 : decode cX3_canStay 23 = .ok (.getfield 37, 3) := by decide +kernel
theorem dX3_canStay_26 : decode cX3_canStay 26 = .ok (.getfield 101, 3) := by decide +kernel
theorem dX3_canStay_29 : decode cX3_canStay 29 = .ok (.iload_n 1, 1) := by decide +kernel
theorem dX3_canStay_30 : decode cX3_canStay 30 = .ok (.iaload, 1) := by decide +kernel
theorem dX3_canStay_31 : decode cX3_canStay 31 = .ok (.invokevirtual 103, 3) := by decide +kernel
theorem dX3_canStay_34 : decode cX3_canStay 34 = .ok (.ifCond .lt 5, 3) := by decide +kernel
theorem dX3_canStay_37 : decode cX3_canStay 37 = .ok (.iconst 0, 1) := by decide +kernel
theorem dX3_canStay_38 : decode cX3_canStay 38 = .ok (.ireturn, 1) := by decide +kernel
theorem dX3_canStay_39 : decode cX3_canStay 39 = .ok (.aload_n 0, 1) := by decide +kernel
theorem dX3_canStay_40 : decode cX3_canStay 40 = .ok (.getfield 12, 3) := by decide +kernel
theorem dX3_canStay_43 : decode cX3_canStay 43 = .ok (.iload_n 1, 1) := by decide +kernel
theorem dX3_canStay_44 : decode cX3_canStay 44 = .ok (.aload_n 0, 1) := by decide +kernel
theorem dX3_canStay_45 : decode cX3_canStay 45 = .ok (.getfield 37, 3) := by decide +kernel
theorem dX3_canStay_48 : decode cX3_canStay 48 = .ok (.getfield 97, 3) := by decide +kernel
theorem dX3_canStay_51 : decode cX3_canStay 51 = .ok (.iload_n 1, 1) := by decide +kernel
theorem dX3_canStay_52 : decode cX3_canStay 52 = .ok (.iaload, 1) := by decide +kernel
theorem dX3_canStay_53 : decode cX3_canStay 53 = .ok (.aload_n 0, 1) := by decide +kernel
theorem dX3_canStay_54 : decode cX3_canStay 54 = .ok (.getfield 37, 3) := by decide +kernel
theorem dX3_canStay_57 : decode cX3_canStay 57 = .ok (.getfield 99, 3) := by decide +kernel
theorem dX3_canStay_60 : decode cX3_canStay 60 = .ok (.iload_n 1, 1) := by decide +kernel
theorem dX3_canStay_61 : decode cX3_canStay 61 = .ok (.iaload, 1) := by decide +kernel
theorem dX3_canStay_62 : decode cX3_canStay 62 = .ok (.aload_n 0, 1) := by decide +kernel
theorem dX3_canStay_63 : decode cX3_canStay 63 = .ok (.getfield 37, 3) := by decide +kernel
theorem dX3_canStay_66 : decode cX3_canStay 66 = .ok (.getfield 101, 3) := by decide +kernel
theorem dX3_canStay_69 : decode cX3_canStay 69 = .ok (.iload_n 1, 1) := by decide +kernel
theorem dX3_canStay_70 : decode cX3_canStay 70 = .ok (.iaload, 1) := by decide +kernel
theorem dX3_canStay_71 : decode cX3_canStay 71 = .ok (.invokevirtual 93, 3) := by decide +kernel
theorem dX3_canStay_74 : decode cX3_canStay 74 = .ok (.iconst 1, 1) := by decide +kernel
theorem dX3_canStay_75 : decode cX3_canStay 75 = .ok (.ireturn, 1) := by decide +kernel
theorem dX3_waitingFor_0 : decode cX3_waitingFor 0 = .ok (.lconst 0, 1) := by decide +kernel
theorem dX3_waitingFor_1 : decode cX3_waitingFor 1 = .ok (.lstore_n 2, 1) := by decide +kernel
theorem dX3_waitingFor_2 : decode cX3_waitingFor 2 = .ok (.iconst 0, 1) := by decide +kernel
theorem dX3_waitingFor_3 : decode cX3_waitingFor 3 = .ok (.istore 4, 2) := by decide +kernel
theorem dX3_waitingFor_5 : decode cX3_waitingFor 5 = .ok (.iload 4, 2) := by decide +kernel
theorem dX3_waitingFor_7 : decode cX3_waitingFor 7 = .ok (.aload_n 0, 1) := by decide +kernel
theorem dX3_waitingFor_8 : decode cX3_waitingFor 8 = .ok (.getfield 37, 3) := by decide +kernel
theorem dX3_waitingFor_11 : decode cX3_waitingFor 11 = .ok (.getfield 51, 3) := by decide +kernel
theorem dX3_waitingFor_14 : decode cX3_waitingFor 14 = .ok (.if_icmp .ge 61, 3) := by decide +kernel
theorem dX3_waitingFor_17 : decode cX3_waitingFor 17 = .ok (.iload 4, 2) := by decide +kernel
theorem dX3_waitingFor_19 : decode cX3_waitingFor 19 = .ok (.iload_n 1, 1) := by decide +kernel
theorem dX3_waitingFor_20 : decode cX3_waitingFor 20 = .ok (.if_icmp .eq 49, 3) := by decide +kernel
theorem dX3_waitingFor_23 : decode cX3_waitingFor 23 = .ok (.aload_n 0, 1) := by decide +kernel
theorem dX3_waitingFor_24 : decode cX3_waitingFor 24 = .ok (.getfield 37, 3) := by decide +kernel
theorem dX3_waitingFor_27 : decode cX3_waitingFor 27 = .ok (.iload 4, 2) := by decide +kernel
theorem dX3_waitingFor_29 : decode cX3_waitingFor 29 = .ok (.aload_n 0, 1) := by decide +kernel
theorem dX3_waitingFor_30 : decode cX3_waitingFor 30 = .ok (.getfield 12, 3) := by decide +kernel
theorem dX3_waitingFor_33 : decode cX3_waitingFor 33 = .ok (.getfield 97, 3) := by decide +kernel
theorem dX3_waitingFor_36 : decode cX3_waitingFor 36 = .ok (.iload_n 1, 1) := by decide +kernel
theorem dX3_waitingFor_37 : decode cX3_waitingFor 37 = .ok (.iaload, 1) := by decide +kernel
theorem dX3_waitingFor_38 : decode cX3_waitingFor 38 = .ok (.aload_n 0, 1) := by decide +kernel
theorem dX3_waitingFor_39 : decode cX3_waitingFor 39 = .ok (.getfield 12, 3) := by decide +kernel
theorem dX3_waitingFor_42 : decode cX3_waitingFor 42 = .ok (.getfield 99, 3) := by decide +kernel
theorem dX3_waitingFor_45 : decode cX3_waitingFor 45 = .ok (.iload_n 1, 1) := by decide +kernel
theorem dX3_waitingFor_46 : decode cX3_waitingFor 46 = .ok (.iaload, 1) := by decide +kernel
theorem dX3_waitingFor_47 : decode cX3_waitingFor 47 = .ok (.aload_n 0, 1) := by decide +kernel
theorem dX3_waitingFor_48 : decode cX3_waitingFor 48 = .ok (.getfield 12, 3) := by decide +kernel
theorem dX3_waitingFor_51 : decode cX3_waitingFor 51 = .ok (.getfield 101, 3) := by decide +kernel
theorem dX3_waitingFor_54 : decode cX3_waitingFor 54 = .ok (.iload_n 1, 1) := by decide +kernel
theorem dX3_waitingFor_55 : decode cX3_waitingFor 55 = .ok (.iaload, 1) := by decide +kernel
theorem dX3_waitingFor_56 : decode cX3_waitingFor 56 = .ok (.invokevirtual 107, 3) := by decide +kernel
theorem dX3_waitingFor_59 : decode cX3_waitingFor 59 = .ok (.ifCond .eq 10, 3) := by decide +kernel
theorem dX3_waitingFor_62 : decode cX3_waitingFor 62 = .ok (.lload_n 2, 1) := by decide +kernel
theorem dX3_waitingFor_63 : decode cX3_waitingFor 63 = .ok (.lconst 1, 1) := by decide +kernel
theorem dX3_waitingFor_64 : decode cX3_waitingFor 64 = .ok (.iload 4, 2) := by decide +kernel
theorem dX3_waitingFor_66 : decode cX3_waitingFor 66 = .ok (.lshl, 1) := by decide +kernel
theorem dX3_waitingFor_67 : decode cX3_waitingFor 67 = .ok (.lor, 1) := by decide +kernel
theorem dX3_waitingFor_68 : decode cX3_waitingFor 68 = .ok (.lstore_n 2, 1) := by decide +kernel
theorem dX3_waitingFor_69 : decode cX3_waitingFor 69 = .ok (.iinc 4 1, 3) := by decide +kernel
theorem dX3_waitingFor_72 : decode cX3_waitingFor 72 = .ok (.goto (-67), 3) := by decide +kernel
theorem dX3_waitingFor_75 : decode cX3_waitingFor 75 = .ok (.lload_n 2, 1) := by decide +kernel
theorem dX3_waitingFor_76 : decode cX3_waitingFor 76 = .ok (.lreturn, 1) := by decide +kernel
theorem dX3_carryOut_0 : decode cX3_carryOut 0 = .ok (.aload_n 0, 1) := by decide +kernel
theorem dX3_carryOut_1 : decode cX3_carryOut 1 = .ok (.invokevirtual 111, 3) := by decide +kernel
theorem dX3_carryOut_4 : decode cX3_carryOut 4 = .ok (.istore_n 1, 1) := by decide +kernel
theorem dX3_carryOut_5 : decode cX3_carryOut 5 = .ok (.iload_n 1, 1) := by decide +kernel
theorem dX3_carryOut_6 : decode cX3_carryOut 6 = .ok (.ifCond .lt 96, 3) := by decide +kernel
theorem dX3_carryOut_9 : decode cX3_carryOut 9 = .ok (.aload_n 0, 1) := by decide +kernel
theorem dX3_carryOut_10 : decode cX3_carryOut 10 = .ok (.getfield 33, 3) := by decide +kernel
theorem dX3_carryOut_13 : decode cX3_carryOut 13 = .ok (.bipush 40, 2) := by decide +kernel
theorem dX3_carryOut_15 : decode cX3_carryOut 15 = .ok (.if_icmp .ge 87, 3) := by decide +kernel
theorem dX3_carryOut_18 : decode cX3_carryOut 18 = .ok (.aload_n 0, 1) := by decide +kernel
theorem dX3_carryOut_19 : decode cX3_carryOut 19 = .ok (.dup, 1) := by decide +kernel
theorem dX3_carryOut_20 : decode cX3_carryOut 20 = .ok (.getfield 18, 3) := by decide +kernel
theorem dX3_carryOut_23 : decode cX3_carryOut 23 = .ok (.lconst 1, 1) := by decide +kernel
theorem dX3_carryOut_24 : decode cX3_carryOut 24 = .ok (.iload_n 1, 1) := by decide +kernel
theorem dX3_carryOut_25 : decode cX3_carryOut 25 = .ok (.lshl, 1) := by decide +kernel
theorem dX3_carryOut_26 : decode cX3_carryOut 26 = .ok (.ldc2_w 115, 3) := by decide +kernel
theorem dX3_carryOut_29 : decode cX3_carryOut 29 = .ok (.lxor, 1) := by decide +kernel
theorem dX3_carryOut_30 : decode cX3_carryOut 30 = .ok (.land, 1) := by decide +kernel
theorem dX3_carryOut_31 : decode cX3_carryOut 31 = .ok (.putfield 18, 3) := by decide +kernel
theorem dX3_carryOut_34 : decode cX3_carryOut 34 = .ok (.aload_n 0, 1) := by decide +kernel
theorem dX3_carryOut_35 : decode cX3_carryOut 35 = .ok (.getfield 29, 3) := by decide +kernel
theorem dX3_carryOut_38 : decode cX3_carryOut 38 = .ok (.aload_n 0, 1) := by decide +kernel
theorem dX3_carryOut_39 : decode cX3_carryOut 39 = .ok (.getfield 33, 3) := by decide +kernel
theorem dX3_carryOut_42 : decode cX3_carryOut 42 = .ok (.iload_n 1, 1) := by decide +kernel
theorem dX3_carryOut_43 : decode cX3_carryOut 43 = .ok (.iastore, 1) := by decide +kernel
theorem dX3_carryOut_44 : decode cX3_carryOut 44 = .ok (.aload_n 0, 1) := by decide +kernel
theorem dX3_carryOut_45 : decode cX3_carryOut 45 = .ok (.dup, 1) := by decide +kernel
theorem dX3_carryOut_46 : decode cX3_carryOut 46 = .ok (.getfield 33, 3) := by decide +kernel
theorem dX3_carryOut_49 : decode cX3_carryOut 49 = .ok (.iconst 1, 1) := by decide +kernel
theorem dX3_carryOut_50 : decode cX3_carryOut 50 = .ok (.iadd, 1) := by decide +kernel
theorem dX3_carryOut_51 : decode cX3_carryOut 51 = .ok (.putfield 33, 3) := by decide +kernel
theorem dX3_carryOut_54 : decode cX3_carryOut 54 = .ok (.aload_n 0, 1) := by decide +kernel
theorem dX3_carryOut_55 : decode cX3_carryOut 55 = .ok (.getfield 37, 3) := by decide +kernel
theorem dX3_carryOut_58 : decode cX3_carryOut 58 = .ok (.iload_n 1, 1) := by decide +kernel
theorem dX3_carryOut_59 : decode cX3_carryOut 59 = .ok (.aload_n 0, 1) := by decide +kernel
theorem dX3_carryOut_60 : decode cX3_carryOut 60 = .ok (.getfield 12, 3) := by decide +kernel
theorem dX3_carryOut_63 : decode cX3_carryOut 63 = .ok (.getfield 97, 3) := by decide +kernel
theorem dX3_carryOut_66 : decode cX3_carryOut 66 = .ok (.iload_n 1, 1) := by decide +kernel
theorem dX3_carryOut_67 : decode cX3_carryOut 67 = .ok (.iaload, 1) := by decide +kernel
theorem dX3_carryOut_68 : decode cX3_carryOut 68 = .ok (.aload_n 0, 1) := by decide +kernel
theorem dX3_carryOut_69 : decode cX3_carryOut 69 = .ok (.getfield 12, 3) := by decide +kernel
theorem dX3_carryOut_72 : decode cX3_carryOut 72 = .ok (.getfield 99, 3) := by decide +kernel
theorem dX3_carryOut_75 : decode cX3_carryOut 75 = .ok (.iload_n 1, 1) := by decide +kernel
theorem dX3_carryOut_76 : decode cX3_carryOut 76 = .ok (.iaload, 1) := by decide +kernel
theorem dX3_carryOut_77 : decode cX3_carryOut 77 = .ok (.aload_n 0, 1) := by decide +kernel
theorem dX3_carryOut_78 : decode cX3_carryOut 78 = .ok (.getfield 12, 3) := by decide +kernel
theorem dX3_carryOut_81 : decode cX3_carryOut 81 = .ok (.getfield 101, 3) := by decide +kernel
theorem dX3_carryOut_84 : decode cX3_carryOut 84 = .ok (.iload_n 1, 1) := by decide +kernel
theorem dX3_carryOut_85 : decode cX3_carryOut 85 = .ok (.iaload, 1) := by decide +kernel
theorem dX3_carryOut_86 : decode cX3_carryOut 86 = .ok (.invokevirtual 117, 3) := by decide +kernel
theorem dX3_carryOut_89 : decode cX3_carryOut 89 = .ok (.aload_n 0, 1) := by decide +kernel
theorem dX3_carryOut_90 : decode cX3_carryOut 90 = .ok (.iload_n 1, 1) := by decide +kernel
theorem dX3_carryOut_91 : decode cX3_carryOut 91 = .ok (.invokevirtual 120, 3) := by decide +kernel
theorem dX3_carryOut_94 : decode cX3_carryOut 94 = .ok (.aload_n 0, 1) := by decide +kernel
theorem dX3_carryOut_95 : decode cX3_carryOut 95 = .ok (.invokevirtual 111, 3) := by decide +kernel
theorem dX3_carryOut_98 : decode cX3_carryOut 98 = .ok (.istore_n 1, 1) := by decide +kernel
theorem dX3_carryOut_99 : decode cX3_carryOut 99 = .ok (.goto (-94), 3) := by decide +kernel
theorem dX3_carryOut_102 : decode cX3_carryOut 102 = .ok (.return_, 1) := by decide +kernel
theorem dX3_nextFree_0 : decode cX3_nextFree 0 = .ok (.iconst 0, 1) := by decide +kernel
theorem dX3_nextFree_1 : decode cX3_nextFree 1 = .ok (.istore_n 1, 1) := by decide +kernel
theorem dX3_nextFree_2 : decode cX3_nextFree 2 = .ok (.iload_n 1, 1) := by decide +kernel
theorem dX3_nextFree_3 : decode cX3_nextFree 3 = .ok (.aload_n 0, 1) := by decide +kernel
theorem dX3_nextFree_4 : decode cX3_nextFree 4 = .ok (.getfield 37, 3) := by decide +kernel
theorem dX3_nextFree_7 : decode cX3_nextFree 7 = .ok (.getfield 51, 3) := by decide +kernel
theorem dX3_nextFree_10 : decode cX3_nextFree 10 = .ok (.if_icmp .ge 35, 3) := by decide +kernel
theorem dX3_nextFree_13 : decode cX3_nextFree 13 = .ok (.aload_n 0, 1) := by decide +kernel
theorem dX3_nextFree_14 : decode cX3_nextFree 14 = .ok (.getfield 18, 3) := by decide +kernel
theorem dX3_nextFree_17 : decode cX3_nextFree 17 = .ok (.iload_n 1, 1) := by decide +kernel
theorem dX3_nextFree_18 : decode cX3_nextFree 18 = .ok (.lushr, 1) := by decide +kernel
theorem dX3_nextFree_19 : decode cX3_nextFree 19 = .ok (.lconst 1, 1) := by decide +kernel
theorem dX3_nextFree_20 : decode cX3_nextFree 20 = .ok (.land, 1) := by decide +kernel
theorem dX3_nextFree_21 : decode cX3_nextFree 21 = .ok (.lconst 0, 1) := by decide +kernel
theorem dX3_nextFree_22 : decode cX3_nextFree 22 = .ok (.lcmp, 1) := by decide +kernel
theorem dX3_nextFree_23 : decode cX3_nextFree 23 = .ok (.ifCond .eq 16, 3) := by decide +kernel
theorem dX3_nextFree_26 : decode cX3_nextFree 26 = .ok (.aload_n 0, 1) := by decide +kernel
theorem dX3_nextFree_27 : decode cX3_nextFree 27 = .ok (.getfield 25, 3) := by decide +kernel
theorem dX3_nextFree_30 : decode cX3_nextFree 30 = .ok (.iload_n 1, 1) := by decide +kernel
theorem dX3_nextFree_31 : decode cX3_nextFree 31 = .ok (.laload, 1) := by decide +kernel
theorem dX3_nextFree_32 : decode cX3_nextFree 32 = .ok (.lconst 0, 1) := by decide +kernel
theorem dX3_nextFree_33 : decode cX3_nextFree 33 = .ok (.lcmp, 1) := by decide +kernel
theorem dX3_nextFree_34 : decode cX3_nextFree 34 = .ok (.ifCond .ne 5, 3) := by decide +kernel
theorem dX3_nextFree_37 : decode cX3_nextFree 37 = .ok (.iload_n 1, 1) := by decide +kernel
theorem dX3_nextFree_38 : decode cX3_nextFree 38 = .ok (.ireturn, 1) := by decide +kernel
theorem dX3_nextFree_39 : decode cX3_nextFree 39 = .ok (.iinc 1 1, 3) := by decide +kernel
theorem dX3_nextFree_42 : decode cX3_nextFree 42 = .ok (.goto (-40), 3) := by decide +kernel
theorem dX3_nextFree_45 : decode cX3_nextFree 45 = .ok (.iconst (-1), 1) := by decide +kernel
theorem dX3_nextFree_46 : decode cX3_nextFree 46 = .ok (.ireturn, 1) := by decide +kernel
theorem dX3_waitAnewFor_0 : decode cX3_waitAnewFor 0 = .ok (.iconst 0, 1) := by decide +kernel
theorem dX3_waitAnewFor_1 : decode cX3_waitAnewFor 1 = .ok (.istore_n 2, 1) := by decide +kernel
theorem dX3_waitAnewFor_2 : decode cX3_waitAnewFor 2 = .ok (.iload_n 2, 1) := by decide +kernel
theorem dX3_waitAnewFor_3 : decode cX3_waitAnewFor 3 = .ok (.aload_n 0, 1) := by decide +kernel
theorem dX3_waitAnewFor_4 : decode cX3_waitAnewFor 4 = .ok (.getfield 37, 3) := by decide +kernel
theorem dX3_waitAnewFor_7 : decode cX3_waitAnewFor 7 = .ok (.getfield 51, 3) := by decide +kernel
theorem dX3_waitAnewFor_10 : decode cX3_waitAnewFor 10 = .ok (.if_icmp .ge 100, 3) := by decide +kernel
theorem dX3_waitAnewFor_13 : decode cX3_waitAnewFor 13 = .ok (.iload_n 2, 1) := by decide +kernel
theorem dX3_waitAnewFor_14 : decode cX3_waitAnewFor 14 = .ok (.iload_n 1, 1) := by decide +kernel
theorem dX3_waitAnewFor_15 : decode cX3_waitAnewFor 15 = .ok (.if_icmp .eq 89, 3) := by decide +kernel
theorem dX3_waitAnewFor_18 : decode cX3_waitAnewFor 18 = .ok (.aload_n 0, 1) := by decide +kernel
theorem dX3_waitAnewFor_19 : decode cX3_waitAnewFor 19 = .ok (.getfield 18, 3) := by decide +kernel
theorem dX3_waitAnewFor_22 : decode cX3_waitAnewFor 22 = .ok (.iload_n 2, 1) := by decide +kernel
theorem dX3_waitAnewFor_23 : decode cX3_waitAnewFor 23 = .ok (.lushr, 1) := by decide +kernel
theorem dX3_waitAnewFor_24 : decode cX3_waitAnewFor 24 = .ok (.lconst 1, 1) := by decide +kernel
theorem dX3_waitAnewFor_25 : decode cX3_waitAnewFor 25 = .ok (.land, 1) := by decide +kernel
theorem dX3_waitAnewFor_26 : decode cX3_waitAnewFor 26 = .ok (.lconst 0, 1) := by decide +kernel
theorem dX3_waitAnewFor_27 : decode cX3_waitAnewFor 27 = .ok (.lcmp, 1) := by decide +kernel
theorem dX3_waitAnewFor_28 : decode cX3_waitAnewFor 28 = .ok (.ifCond .eq 76, 3) := by decide +kernel
theorem dX3_waitAnewFor_31 : decode cX3_waitAnewFor 31 = .ok (.aload_n 0, 1) := by decide +kernel
theorem dX3_waitAnewFor_32 : decode cX3_waitAnewFor 32 = .ok (.getfield 37, 3) := by decide +kernel
theorem dX3_waitAnewFor_35 : decode cX3_waitAnewFor 35 = .ok (.iload_n 1, 1) := by decide +kernel
theorem dX3_waitAnewFor_36 : decode cX3_waitAnewFor 36 = .ok (.aload_n 0, 1) := by decide +kernel
theorem dX3_waitAnewFor_37 : decode cX3_waitAnewFor 37 = .ok (.getfield 12, 3) := by decide +kernel
theorem dX3_waitAnewFor_40 : decode cX3_waitAnewFor 40 = .ok (.getfield 97, 3) := by decide +kernel
theorem dX3_waitAnewFor_43 : decode cX3_waitAnewFor 43 = .ok (.iload_n 2, 1) := by decide +kernel
theorem dX3_waitAnewFor_44 : decode cX3_waitAnewFor 44 = .ok (.iaload, 1) := by decide +kernel
theorem dX3_waitAnewFor_45 : decode cX3_waitAnewFor 45 = .ok (.aload_n 0, 1) := by decide +kernel
theorem dX3_waitAnewFor_46 : decode cX3_waitAnewFor 46 = .ok (.getfield 12, 3) := by decide +kernel
theorem dX3_waitAnewFor_49 : decode cX3_waitAnewFor 49 = .ok (.getfield 99, 3) := by decide +kernel
theorem dX3_waitAnewFor_52 : decode cX3_waitAnewFor 52 = .ok (.iload_n 2, 1) := by decide +kernel
theorem dX3_waitAnewFor_53 : decode cX3_waitAnewFor 53 = .ok (.iaload, 1) := by decide +kernel
theorem dX3_waitAnewFor_54 : decode cX3_waitAnewFor 54 = .ok (.aload_n 0, 1) := by decide +kernel
theorem dX3_waitAnewFor_55 : decode cX3_waitAnewFor 55 = .ok (.getfield 12, 3) := by decide +kernel
theorem dX3_waitAnewFor_58 : decode cX3_waitAnewFor 58 = .ok (.getfield 101, 3) := by decide +kernel
theorem dX3_waitAnewFor_61 : decode cX3_waitAnewFor 61 = .ok (.iload_n 2, 1) := by decide +kernel
theorem dX3_waitAnewFor_62 : decode cX3_waitAnewFor 62 = .ok (.iaload, 1) := by decide +kernel
theorem dX3_waitAnewFor_63 : decode cX3_waitAnewFor 63 = .ok (.invokevirtual 107, 3) := by decide +kernel
theorem dX3_waitAnewFor_66 : decode cX3_waitAnewFor 66 = .ok (.istore_n 3, 1) := by decide +kernel
theorem dX3_waitAnewFor_67 : decode cX3_waitAnewFor 67 = .ok (.aload_n 0, 1) := by decide +kernel
theorem dX3_waitAnewFor_68 : decode cX3_waitAnewFor 68 = .ok (.getfield 25, 3) := by decide +kernel
theorem dX3_waitAnewFor_71 : decode cX3_waitAnewFor 71 = .ok (.iload_n 2, 1) := by decide +kernel
theorem dX3_waitAnewFor_72 : decode cX3_waitAnewFor 72 = .ok (.iload_n 3, 1) := by decide +kernel
theorem dX3_waitAnewFor_73 : decode cX3_waitAnewFor 73 = .ok (.ifCond .eq 16, 3) := by decide +kernel
theorem dX3_waitAnewFor_76 : decode cX3_waitAnewFor 76 = .ok (.aload_n 0, 1) := by decide +kernel
theorem dX3_waitAnewFor_77 : decode cX3_waitAnewFor 77 = .ok (.getfield 25, 3) := by decide +kernel
theorem dX3_waitAnewFor_80 : decode cX3_waitAnewFor 80 = .ok (.iload_n 2, 1) := by decide +kernel
theorem dX3_waitAnewFor_81 : decode cX3_waitAnewFor 81 = .ok (.laload, 1) := by decide +kernel
theorem dX3_waitAnewFor_82 : decode cX3_waitAnewFor 82 = .ok (.lconst 1, 1) := by decide +kernel
theorem dX3_waitAnewFor_83 : decode cX3_waitAnewFor 83 = .ok (.iload_n 1, 1) := by decide +kernel
theorem dX3_waitAnewFor_84 : decode cX3_waitAnewFor 84 = .ok (.lshl, 1) := by decide +kernel
theorem dX3_waitAnewFor_85 : decode cX3_waitAnewFor 85 = .ok (.lor, 1) := by decide +kernel
theorem dX3_waitAnewFor_86 : decode cX3_waitAnewFor 86 = .ok (.goto 17, 3) := by decide +kernel
theorem dX3_waitAnewFor_89 : decode cX3_waitAnewFor 89 = .ok (.aload_n 0, 1) := by decide +kernel
theorem dX3_waitAnewFor_90 : decode cX3_waitAnewFor 90 = .ok (.getfield 25, 3) := by decide +kernel
theorem dX3_waitAnewFor_93 : decode cX3_waitAnewFor 93 = .ok (.iload_n 2, 1) := by decide +kernel
theorem dX3_waitAnewFor_94 : decode cX3_waitAnewFor 94 = .ok (.laload, 1) := by decide +kernel
theorem dX3_waitAnewFor_95 : decode cX3_waitAnewFor 95 = .ok (.lconst 1, 1) := by decide +kernel
theorem dX3_waitAnewFor_96 : decode cX3_waitAnewFor 96 = .ok (.iload_n 1, 1) := by decide +kernel
theorem dX3_waitAnewFor_97 : decode cX3_waitAnewFor 97 = .ok (.lshl, 1) := by decide +kernel
theorem dX3_waitAnewFor_98 : decode cX3_waitAnewFor 98 = .ok (.ldc2_w 115, 3) := by decide +kernel
theorem dX3_waitAnewFor_101 : decode cX3_waitAnewFor 101 = .ok (.lxor, 1) := by decide +kernel
theorem dX3_waitAnewFor_102 : decode cX3_waitAnewFor 102 = .ok (.land, 1) := by decide +kernel
theorem dX3_waitAnewFor_103 : decode cX3_waitAnewFor 103 = .ok (.lastore, 1) := by decide +kernel
theorem dX3_waitAnewFor_104 : decode cX3_waitAnewFor 104 = .ok (.iinc 2 1, 3) := by decide +kernel
theorem dX3_waitAnewFor_107 : decode cX3_waitAnewFor 107 = .ok (.goto (-105), 3) := by decide +kernel
theorem dX3_waitAnewFor_110 : decode cX3_waitAnewFor 110 = .ok (.return_, 1) := by decide +kernel
theorem dX3_carryOutParking_0 : decode cX3_carryOutParking 0 = .ok (.aload_n 0, 1) := by decide +kernel
theorem dX3_carryOutParking_1 : decode cX3_carryOutParking 1 = .ok (.invokevirtual 123, 3) := by decide +kernel
theorem dX3_carryOutParking_4 : decode cX3_carryOutParking 4 = .ok (.iconst 0, 1) := by decide +kernel
theorem dX3_carryOutParking_5 : decode cX3_carryOutParking 5 = .ok (.istore_n 1, 1) := by decide +kernel
theorem dX3_carryOutParking_6 : decode cX3_carryOutParking 6 = .ok (.iload_n 1, 1) := by decide +kernel
theorem dX3_carryOutParking_7 : decode cX3_carryOutParking 7 = .ok (.bipush 40, 2) := by decide +kernel
theorem dX3_carryOutParking_9 : decode cX3_carryOutParking 9 = .ok (.if_icmp .ge 29, 3) := by decide +kernel
theorem dX3_carryOutParking_12 : decode cX3_carryOutParking 12 = .ok (.aload_n 0, 1) := by decide +kernel
theorem dX3_carryOutParking_13 : decode cX3_carryOutParking 13 = .ok (.getfield 18, 3) := by decide +kernel
theorem dX3_carryOutParking_16 : decode cX3_carryOutParking 16 = .ok (.lconst 0, 1) := by decide +kernel
theorem dX3_carryOutParking_17 : decode cX3_carryOutParking 17 = .ok (.lcmp, 1) := by decide +kernel
theorem dX3_carryOutParking_18 : decode cX3_carryOutParking 18 = .ok (.ifCond .eq 20, 3) := by decide +kernel
theorem dX3_carryOutParking_21 : decode cX3_carryOutParking 21 = .ok (.aload_n 0, 1) := by decide +kernel
theorem dX3_carryOutParking_22 : decode cX3_carryOutParking 22 = .ok (.invokevirtual 126, 3) := by decide +kernel
theorem dX3_carryOutParking_25 : decode cX3_carryOutParking 25 = .ok (.ifCond .eq 13, 3) := by decide +kernel
theorem dX3_carryOutParking_28 : decode cX3_carryOutParking 28 = .ok (.aload_n 0, 1) := by decide +kernel
theorem dX3_carryOutParking_29 : decode cX3_carryOutParking 29 = .ok (.invokevirtual 123, 3) := by decide +kernel
theorem dX3_carryOutParking_32 : decode cX3_carryOutParking 32 = .ok (.iinc 1 1, 3) := by decide +kernel
theorem dX3_carryOutParking_35 : decode cX3_carryOutParking 35 = .ok (.goto (-29), 3) := by decide +kernel
theorem dX3_carryOutParking_38 : decode cX3_carryOutParking 38 = .ok (.return_, 1) := by decide +kernel
theorem dX3_parkOne_0 : decode cX3_parkOne 0 = .ok (.iconst 0, 1) := by decide +kernel
theorem dX3_parkOne_1 : decode cX3_parkOne 1 = .ok (.istore_n 1, 1) := by decide +kernel
theorem dX3_parkOne_2 : decode cX3_parkOne 2 = .ok (.iload_n 1, 1) := by decide +kernel
theorem dX3_parkOne_3 : decode cX3_parkOne 3 = .ok (.aload_n 0, 1) := by decide +kernel
theorem dX3_parkOne_4 : decode cX3_parkOne 4 = .ok (.getfield 37, 3) := by decide +kernel
theorem dX3_parkOne_7 : decode cX3_parkOne 7 = .ok (.getfield 51, 3) := by decide +kernel
theorem dX3_parkOne_10 : decode cX3_parkOne 10 = .ok (.if_icmp .ge 109, 3) := by decide +kernel
theorem dX3_parkOne_13 : decode cX3_parkOne 13 = .ok (.aload_n 0, 1) := by decide +kernel
theorem dX3_parkOne_14 : decode cX3_parkOne 14 = .ok (.getfield 18, 3) := by decide +kernel
theorem dX3_parkOne_17 : decode cX3_parkOne 17 = .ok (.aload_n 0, 1) := by decide +kernel
theorem dX3_parkOne_18 : decode cX3_parkOne 18 = .ok (.getfield 22, 3) := by decide +kernel
theorem dX3_parkOne_21 : decode cX3_parkOne 21 = .ok (.ldc2_w 115, 3) := by decide +kernel
theorem dX3_parkOne_24 : decode cX3_parkOne 24 = .ok (.lxor, 1) := by decide +kernel
theorem dX3_parkOne_25 : decode cX3_parkOne 25 = .ok (.land, 1) := by decide +kernel
theorem dX3_parkOne_26 : decode cX3_parkOne 26 = .ok (.iload_n 1, 1) := by decide +kernel
theorem dX3_parkOne_27 : decode cX3_parkOne 27 = .ok (.lushr, 1) := by decide +kernel
theorem dX3_parkOne_28 : decode cX3_parkOne 28 = .ok (.lconst 1, 1) := by decide +kernel
theorem dX3_parkOne_29 : decode cX3_parkOne 29 = .ok (.land, 1) := by decide +kernel
theorem dX3_parkOne_30 : decode cX3_parkOne 30 = .ok (.lconst 0, 1) := by decide +kernel
theorem dX3_parkOne_31 : decode cX3_parkOne 31 = .ok (.lcmp, 1) := by decide +kernel
theorem dX3_parkOne_32 : decode cX3_parkOne 32 = .ok (.ifCond .eq 7, 3) := by decide +kernel
theorem dX3_parkOne_35 : decode cX3_parkOne 35 = .ok (.iconst 1, 1) := by decide +kernel
theorem dX3_parkOne_36 : decode cX3_parkOne 36 = .ok (.goto 4, 3) := by decide +kernel
theorem dX3_parkOne_39 : decode cX3_parkOne 39 = .ok (.iconst 0, 1) := by decide +kernel
theorem dX3_parkOne_40 : decode cX3_parkOne 40 = .ok (.istore_n 2, 1) := by decide +kernel
theorem dX3_parkOne_41 : decode cX3_parkOne 41 = .ok (.iload_n 2, 1) := by decide +kernel
theorem dX3_parkOne_42 : decode cX3_parkOne 42 = .ok (.ifCond .eq 14, 3) := by decide +kernel
theorem dX3_parkOne_45 : decode cX3_parkOne 45 = .ok (.aload_n 0, 1) := by decide +kernel
theorem dX3_parkOne_46 : decode cX3_parkOne 46 = .ok (.getfield 37, 3) := by decide +kernel
theorem dX3_parkOne_49 : decode cX3_parkOne 49 = .ok (.iload_n 1, 1) := by decide +kernel
theorem dX3_parkOne_50 : decode cX3_parkOne 50 = .ok (.invokevirtual 130, 3) := by decide +kernel
theorem dX3_parkOne_53 : decode cX3_parkOne 53 = .ok (.goto 4, 3) := by decide +kernel
theorem dX3_parkOne_56 : decode cX3_parkOne 56 = .ok (.lconst 0, 1) := by decide +kernel
theorem dX3_parkOne_57 : decode cX3_parkOne 57 = .ok (.lstore_n 3, 1) := by decide +kernel
theorem dX3_parkOne_58 : decode cX3_parkOne 58 = .ok (.lload_n 3, 1) := by decide +kernel
theorem dX3_parkOne_59 : decode cX3_parkOne 59 = .ok (.lconst 0, 1) := by decide +kernel
theorem dX3_parkOne_60 : decode cX3_parkOne 60 = .ok (.lcmp, 1) := by decide +kernel
theorem dX3_parkOne_61 : decode cX3_parkOne 61 = .ok (.ifCond .eq 52, 3) := by decide +kernel
theorem dX3_parkOne_64 : decode cX3_parkOne 64 = .ok (.aload_n 0, 1) := by decide +kernel
theorem dX3_parkOne_65 : decode cX3_parkOne 65 = .ok (.getfield 37, 3) := by decide +kernel
theorem dX3_parkOne_68 : decode cX3_parkOne 68 = .ok (.iload_n 1, 1) := by decide +kernel
theorem dX3_parkOne_69 : decode cX3_parkOne 69 = .ok (.aload_n 0, 1) := by decide +kernel
theorem dX3_parkOne_70 : decode cX3_parkOne 70 = .ok (.getfield 37, 3) := by decide +kernel
theorem dX3_parkOne_73 : decode cX3_parkOne 73 = .ok (.getfield 97, 3) := by decide +kernel
theorem dX3_parkOne_76 : decode cX3_parkOne 76 = .ok (.iload_n 1, 1) := by decide +kernel
theorem dX3_parkOne_77 : decode cX3_parkOne 77 = .ok (.iaload, 1) := by decide +kernel
theorem dX3_parkOne_78 : decode cX3_parkOne 78 = .ok (.lload_n 3, 1) := by decide +kernel
theorem dX3_parkOne_79 : decode cX3_parkOne 79 = .ok (.invokestatic 133, 3) := by decide +kernel
theorem dX3_parkOne_82 : decode cX3_parkOne 82 = .ok (.aload_n 0, 1) := by decide +kernel
theorem dX3_parkOne_83 : decode cX3_parkOne 83 = .ok (.getfield 37, 3) := by decide +kernel
theorem dX3_parkOne_86 : decode cX3_parkOne 86 = .ok (.getfield 101, 3) := by decide +kernel
theorem dX3_parkOne_89 : decode cX3_parkOne 89 = .ok (.iload_n 1, 1) := by decide +kernel
theorem dX3_parkOne_90 : decode cX3_parkOne 90 = .ok (.iaload, 1) := by decide +kernel
theorem dX3_parkOne_91 : decode cX3_parkOne 91 = .ok (.invokevirtual 117, 3) := by decide +kernel
theorem dX3_parkOne_94 : decode cX3_parkOne 94 = .ok (.aload_n 0, 1) := by decide +kernel
theorem dX3_parkOne_95 : decode cX3_parkOne 95 = .ok (.dup, 1) := by decide +kernel
theorem dX3_parkOne_96 : decode cX3_parkOne 96 = .ok (.getfield 22, 3) := by decide +kernel
theorem dX3_parkOne_99 : decode cX3_parkOne 99 = .ok (.lconst 1, 1) := by decide +kernel
theorem dX3_parkOne_100 : decode cX3_parkOne 100 = .ok (.iload_n 1, 1) := by decide +kernel
theorem dX3_parkOne_101 : decode cX3_parkOne 101 = .ok (.lshl, 1) := by decide +kernel
theorem dX3_parkOne_102 : decode cX3_parkOne 102 = .ok (.lor, 1) := by decide +kernel
theorem dX3_parkOne_103 : decode cX3_parkOne 103 = .ok (.putfield 22, 3) := by decide +kernel
theorem dX3_parkOne_106 : decode cX3_parkOne 106 = .ok (.aload_n 0, 1) := by decide +kernel
theorem dX3_parkOne_107 : decode cX3_parkOne 107 = .ok (.iload_n 1, 1) := by decide +kernel
theorem dX3_parkOne_108 : decode cX3_parkOne 108 = .ok (.invokevirtual 120, 3) := by decide +kernel
theorem dX3_parkOne_111 : decode cX3_parkOne 111 = .ok (.iconst 1, 1) := by decide +kernel
theorem dX3_parkOne_112 : decode cX3_parkOne 112 = .ok (.ireturn, 1) := by decide +kernel
theorem dX3_parkOne_113 : decode cX3_parkOne 113 = .ok (.iinc 1 1, 3) := by decide +kernel
theorem dX3_parkOne_116 : decode cX3_parkOne 116 = .ok (.goto (-114), 3) := by decide +kernel
theorem dX3_parkOne_119 : decode cX3_parkOne 119 = .ok (.iconst 0, 1) := by decide +kernel
theorem dX3_parkOne_120 : decode cX3_parkOne 120 = .ok (.ireturn, 1) := by decide +kernel
theorem dX3_goingRound_0 : decode cX3_goingRound 0 = .ok (.iconst 0, 1) := by decide +kernel
theorem dX3_goingRound_1 : decode cX3_goingRound 1 = .ok (.istore_n 1, 1) := by decide +kernel
theorem dX3_goingRound_2 : decode cX3_goingRound 2 = .ok (.iload_n 1, 1) := by decide +kernel
theorem dX3_goingRound_3 : decode cX3_goingRound 3 = .ok (.aload_n 0, 1) := by decide +kernel
theorem dX3_goingRound_4 : decode cX3_goingRound 4 = .ok (.getfield 37, 3) := by decide +kernel
theorem dX3_goingRound_7 : decode cX3_goingRound 7 = .ok (.getfield 51, 3) := by decide +kernel
theorem dX3_goingRound_10 : decode cX3_goingRound 10 = .ok (.if_icmp .ge 58, 3) := by decide +kernel
theorem dX3_goingRound_13 : decode cX3_goingRound 13 = .ok (.iconst 0, 1) := by decide +kernel
theorem dX3_goingRound_14 : decode cX3_goingRound 14 = .ok (.istore_n 2, 1) := by decide +kernel
theorem dX3_goingRound_15 : decode cX3_goingRound 15 = .ok (.iload_n 2, 1) := by decide +kernel
theorem dX3_goingRound_16 : decode cX3_goingRound 16 = .ok (.aload_n 0, 1) := by decide +kernel
theorem dX3_goingRound_17 : decode cX3_goingRound 17 = .ok (.getfield 37, 3) := by decide +kernel
theorem dX3_goingRound_20 : decode cX3_goingRound 20 = .ok (.getfield 51, 3) := by decide +kernel
theorem dX3_goingRound_23 : decode cX3_goingRound 23 = .ok (.if_icmp .ge 39, 3) := by decide +kernel
theorem dX3_goingRound_26 : decode cX3_goingRound 26 = .ok (.aload_n 0, 1) := by decide +kernel
theorem dX3_goingRound_27 : decode cX3_goingRound 27 = .ok (.getfield 25, 3) := by decide +kernel
theorem dX3_goingRound_30 : decode cX3_goingRound 30 = .ok (.iload_n 2, 1) := by decide +kernel
theorem dX3_goingRound_31 : decode cX3_goingRound 31 = .ok (.laload, 1) := by decide +kernel
theorem dX3_goingRound_32 : decode cX3_goingRound 32 = .ok (.iload_n 1, 1) := by decide +kernel
theorem dX3_goingRound_33 : decode cX3_goingRound 33 = .ok (.lushr, 1) := by decide +kernel
theorem dX3_goingRound_34 : decode cX3_goingRound 34 = .ok (.lconst 1, 1) := by decide +kernel
theorem dX3_goingRound_35 : decode cX3_goingRound 35 = .ok (.land, 1) := by decide +kernel
theorem dX3_goingRound_36 : decode cX3_goingRound 36 = .ok (.lconst 0, 1) := by decide +kernel
theorem dX3_goingRound_37 : decode cX3_goingRound 37 = .ok (.lcmp, 1) := by decide +kernel
theorem dX3_goingRound_38 : decode cX3_goingRound 38 = .ok (.ifCond .eq 18, 3) := by decide +kernel
theorem dX3_goingRound_41 : decode cX3_goingRound 41 = .ok (.aload_n 0, 1) := by decide +kernel
theorem dX3_goingRound_42 : decode cX3_goingRound 42 = .ok (.getfield 25, 3) := by decide +kernel
theorem dX3_goingRound_45 : decode cX3_goingRound 45 = .ok (.iload_n 2, 1) := by decide +kernel
theorem dX3_goingRound_46 : decode cX3_goingRound 46 = .ok (.dup2, 1) := by decide +kernel
theorem dX3_goingRound_47 : decode cX3_goingRound 47 = .ok (.laload, 1) := by decide +kernel
theorem dX3_goingRound_48 : decode cX3_goingRound 48 = .ok (.aload_n 0, 1) := by decide +kernel
theorem dX3_goingRound_49 : decode cX3_goingRound 49 = .ok (.getfield 25, 3) := by decide +kernel
theorem dX3_goingRound_52 : decode cX3_goingRound 52 = .ok (.iload_n 1, 1) := by decide +kernel
theorem dX3_goingRound_53 : decode cX3_goingRound 53 = .ok (.laload, 1) := by decide +kernel
theorem dX3_goingRound_54 : decode cX3_goingRound 54 = .ok (.lor, 1) := by decide +kernel
theorem dX3_goingRound_55 : decode cX3_goingRound 55 = .ok (.lastore, 1) := by decide +kernel
theorem dX3_goingRound_56 : decode cX3_goingRound 56 = .ok (.iinc 2 1, 3) := by decide +kernel
theorem dX3_goingRound_59 : decode cX3_goingRound 59 = .ok (.goto (-44), 3) := by decide +kernel
theorem dX3_goingRound_62 : decode cX3_goingRound 62 = .ok (.iinc 1 1, 3) := by decide +kernel
theorem dX3_goingRound_65 : decode cX3_goingRound 65 = .ok (.goto (-63), 3) := by decide +kernel
theorem dX3_goingRound_68 : decode cX3_goingRound 68 = .ok (.iconst 0, 1) := by decide +kernel
theorem dX3_goingRound_69 : decode cX3_goingRound 69 = .ok (.istore_n 1, 1) := by decide +kernel
theorem dX3_goingRound_70 : decode cX3_goingRound 70 = .ok (.iconst 0, 1) := by decide +kernel
theorem dX3_goingRound_71 : decode cX3_goingRound 71 = .ok (.istore_n 2, 1) := by decide +kernel
theorem dX3_goingRound_72 : decode cX3_goingRound 72 = .ok (.iload_n 2, 1) := by decide +kernel
theorem dX3_goingRound_73 : decode cX3_goingRound 73 = .ok (.aload_n 0, 1) := by decide +kernel
theorem dX3_goingRound_74 : decode cX3_goingRound 74 = .ok (.getfield 37, 3) := by decide +kernel
theorem dX3_goingRound_77 : decode cX3_goingRound 77 = .ok (.getfield 51, 3) := by decide +kernel
theorem dX3_goingRound_80 : decode cX3_goingRound 80 = .ok (.if_icmp .ge 27, 3) := by decide +kernel
theorem dX3_goingRound_83 : decode cX3_goingRound 83 = .ok (.aload_n 0, 1) := by decide +kernel
theorem dX3_goingRound_84 : decode cX3_goingRound 84 = .ok (.getfield 25, 3) := by decide +kernel
theorem dX3_goingRound_87 : decode cX3_goingRound 87 = .ok (.iload_n 2, 1) := by decide +kernel
theorem dX3_goingRound_88 : decode cX3_goingRound 88 = .ok (.laload, 1) := by decide +kernel
theorem dX3_goingRound_89 : decode cX3_goingRound 89 = .ok (.iload_n 2, 1) := by decide +kernel
theorem dX3_goingRound_90 : decode cX3_goingRound 90 = .ok (.lushr, 1) := by decide +kernel
theorem dX3_goingRound_91 : decode cX3_goingRound 91 = .ok (.lconst 1, 1) := by decide +kernel
theorem dX3_goingRound_92 : decode cX3_goingRound 92 = .ok (.land, 1) := by decide +kernel
theorem dX3_goingRound_93 : decode cX3_goingRound 93 = .ok (.lconst 0, 1) := by decide +kernel
theorem dX3_goingRound_94 : decode cX3_goingRound 94 = .ok (.lcmp, 1) := by decide +kernel
theorem dX3_goingRound_95 : decode cX3_goingRound 95 = .ok (.ifCond .eq 6, 3) := by decide +kernel
theorem dX3_goingRound_98 : decode cX3_goingRound 98 = .ok (.iinc 1 1, 3) := by decide +kernel
theorem dX3_goingRound_101 : decode cX3_goingRound 101 = .ok (.iinc 2 1, 3) := by decide +kernel
theorem dX3_goingRound_104 : decode cX3_goingRound 104 = .ok (.goto (-32), 3) := by decide +kernel
theorem dX3_goingRound_107 : decode cX3_goingRound 107 = .ok (.iload_n 1, 1) := by decide +kernel
theorem dX3_goingRound_108 : decode cX3_goingRound 108 = .ok (.ireturn, 1) := by decide +kernel
theorem dX4_init_0 : decode cX4_init 0 = .ok (.aload_n 0, 1) := by decide +kernel
theorem dX4_init_1 : decode cX4_init 1 = .ok (.invokespecial 3, 3) := by decide +kernel
theorem dX4_init_4 : decode cX4_init 4 = .ok (.aload_n 0, 1) := by decide +kernel
theorem dX4_init_5 : decode cX4_init 5 = .ok (.new 9, 3) := by decide +kernel
theorem dX4_init_8 : decode cX4_init 8 = .ok (.dup, 1) := by decide +kernel
theorem dX4_init_9 : decode cX4_init 9 = .ok (.invokespecial 11, 3) := by decide +kernel
theorem dX4_init_12 : decode cX4_init 12 = .ok (.putfield 12, 3) := by decide +kernel
theorem dX4_init_15 : decode cX4_init 15 = .ok (.aload_n 0, 1) := by decide +kernel
theorem dX4_init_16 : decode cX4_init 16 = .ok (.iconst 0, 1) := by decide +kernel
theorem dX4_init_17 : decode cX4_init 17 = .ok (.putfield 18, 3) := by decide +kernel
theorem dX4_init_20 : decode cX4_init 20 = .ok (.aload_n 0, 1) := by decide +kernel
theorem dX4_init_21 : decode cX4_init 21 = .ok (.iconst 0, 1) := by decide +kernel
theorem dX4_init_22 : decode cX4_init 22 = .ok (.putfield 22, 3) := by decide +kernel
theorem dX4_init_25 : decode cX4_init 25 = .ok (.aload_n 0, 1) := by decide +kernel
theorem dX4_init_26 : decode cX4_init 26 = .ok (.iconst 1, 1) := by decide +kernel
theorem dX4_init_27 : decode cX4_init 27 = .ok (.putfield 25, 3) := by decide +kernel
theorem dX4_init_30 : decode cX4_init 30 = .ok (.aload_n 0, 1) := by decide +kernel
theorem dX4_init_31 : decode cX4_init 31 = .ok (.iconst 0, 1) := by decide +kernel
theorem dX4_init_32 : decode cX4_init 32 = .ok (.putfield 28, 3) := by decide +kernel
theorem dX4_init_35 : decode cX4_init 35 = .ok (.aload_n 0, 1) := by decide +kernel
theorem dX4_init_36 : decode cX4_init 36 = .ok (.bipush 40, 2) := by decide +kernel
theorem dX4_init_38 : decode cX4_init 38 = .ok (.newarray .int, 2) := by decide +kernel
theorem dX4_init_40 : decode cX4_init 40 = .ok (.putfield 31, 3) := by decide +kernel
theorem dX4_init_43 : decode cX4_init 43 = .ok (.aload_n 0, 1) := by decide +kernel
theorem dX4_init_44 : decode cX4_init 44 = .ok (.bipush 40, 2) := by decide +kernel
theorem dX4_init_46 : decode cX4_init 46 = .ok (.newarray .int, 2) := by decide +kernel
theorem dX4_init_48 : decode cX4_init 48 = .ok (.putfield 35, 3) := by decide +kernel
theorem dX4_init_51 : decode cX4_init 51 = .ok (.aload_n 0, 1) := by decide +kernel
theorem dX4_init_52 : decode cX4_init 52 = .ok (.bipush 40, 2) := by decide +kernel
theorem dX4_init_54 : decode cX4_init 54 = .ok (.newarray .int, 2) := by decide +kernel
theorem dX4_init_56 : decode cX4_init 56 = .ok (.putfield 38, 3) := by decide +kernel
theorem dX4_init_59 : decode cX4_init 59 = .ok (.aload_n 0, 1) := by decide +kernel
theorem dX4_init_60 : decode cX4_init 60 = .ok (.bipush 40, 2) := by decide +kernel
theorem dX4_init_62 : decode cX4_init 62 = .ok (.newarray .int, 2) := by decide +kernel
theorem dX4_init_64 : decode cX4_init 64 = .ok (.putfield 41, 3) := by decide +kernel
theorem dX4_init_67 : decode cX4_init 67 = .ok (.aload_n 0, 1) := by decide +kernel
theorem dX4_init_68 : decode cX4_init 68 = .ok (.bipush 40, 2) := by decide +kernel
theorem dX4_init_70 : decode cX4_init 70 = .ok (.newarray .int, 2) := by decide +kernel
theorem dX4_init_72 : decode cX4_init 72 = .ok (.putfield 44, 3) := by decide +kernel
theorem dX4_init_75 : decode cX4_init 75 = .ok (.aload_n 0, 1) := by decide +kernel
theorem dX4_init_76 : decode cX4_init 76 = .ok (.bipush 40, 2) := by decide +kernel
theorem dX4_init_78 : decode cX4_init 78 = .ok (.newarray .int, 2) := by decide +kernel
theorem dX4_init_80 : decode cX4_init 80 = .ok (.putfield 47, 3) := by decide +kernel
theorem dX4_init_83 : decode cX4_init 83 = .ok (.aload_n 0, 1) := by decide +kernel
theorem dX4_init_84 : decode cX4_init 84 = .ok (.bipush 40, 2) := by decide +kernel
theorem dX4_init_86 : decode cX4_init 86 = .ok (.newarray .int, 2) := by decide +kernel
theorem dX4_init_88 : decode cX4_init 88 = .ok (.putfield 50, 3) := by decide +kernel
theorem dX4_init_91 : decode cX4_init 91 = .ok (.aload_n 0, 1) := by decide +kernel
theorem dX4_init_92 : decode cX4_init 92 = .ok (.bipush 40, 2) := by decide +kernel
theorem dX4_init_94 : decode cX4_init 94 = .ok (.newarray .int, 2) := by decide +kernel
theorem dX4_init_96 : decode cX4_init 96 = .ok (.putfield 53, 3) := by decide +kernel
theorem dX4_init_99 : decode cX4_init 99 = .ok (.aload_n 0, 1) := by decide +kernel
theorem dX4_init_100 : decode cX4_init 100 = .ok (.bipush 40, 2) := by decide +kernel
theorem dX4_init_102 : decode cX4_init 102 = .ok (.newarray .long, 2) := by decide +kernel
theorem dX4_init_104 : decode cX4_init 104 = .ok (.putfield 56, 3) := by decide +kernel
theorem dX4_init_107 : decode cX4_init 107 = .ok (.aload_n 0, 1) := by decide +kernel
theorem dX4_init_108 : decode cX4_init 108 = .ok (.bipush 14, 2) := by decide +kernel
theorem dX4_init_110 : decode cX4_init 110 = .ok (.newarray .long, 2) := by decide +kernel
theorem dX4_init_112 : decode cX4_init 112 = .ok (.putfield 60, 3) := by decide +kernel
theorem dX4_init_115 : decode cX4_init 115 = .ok (.aload_n 0, 1) := by decide +kernel
theorem dX4_init_116 : decode cX4_init 116 = .ok (.bipush 40, 2) := by decide +kernel
theorem dX4_init_118 : decode cX4_init 118 = .ok (.newarray .int, 2) := by decide +kernel
theorem dX4_init_120 : decode cX4_init 120 = .ok (.putfield 63, 3) := by decide +kernel
theorem dX4_init_123 : decode cX4_init 123 = .ok (.return_, 1) := by decide +kernel
theorem dX4_beginWith_0 : decode cX4_beginWith 0 = .ok (.aload_n 0, 1) := by decide +kernel
theorem dX4_beginWith_1 : decode cX4_beginWith 1 = .ok (.getfield 12, 3) := by decide +kernel
theorem dX4_beginWith_4 : decode cX4_beginWith 4 = .ok (.aload_n 1, 1) := by decide +kernel
theorem dX4_beginWith_5 : decode cX4_beginWith 5 = .ok (.invokevirtual 66, 3) := by decide +kernel
theorem dX4_beginWith_8 : decode cX4_beginWith 8 = .ok (.aload_n 0, 1) := by decide +kernel
theorem dX4_beginWith_9 : decode cX4_beginWith 9 = .ok (.iconst 1, 1) := by decide +kernel
theorem dX4_beginWith_10 : decode cX4_beginWith 10 = .ok (.aload_n 0, 1) := by decide +kernel
theorem dX4_beginWith_11 : decode cX4_beginWith 11 = .ok (.getfield 12, 3) := by decide +kernel
theorem dX4_beginWith_14 : decode cX4_beginWith 14 = .ok (.getfield 70, 3) := by decide +kernel
theorem dX4_beginWith_17 : decode cX4_beginWith 17 = .ok (.ishl, 1) := by decide +kernel
theorem dX4_beginWith_18 : decode cX4_beginWith 18 = .ok (.iconst 1, 1) := by decide +kernel
theorem dX4_beginWith_19 : decode cX4_beginWith 19 = .ok (.isub, 1) := by decide +kernel
theorem dX4_beginWith_20 : decode cX4_beginWith 20 = .ok (.putfield 18, 3) := by decide +kernel
theorem dX4_beginWith_23 : decode cX4_beginWith 23 = .ok (.aload_n 0, 1) := by decide +kernel
theorem dX4_beginWith_24 : decode cX4_beginWith 24 = .ok (.iconst 0, 1) := by decide +kernel
theorem dX4_beginWith_25 : decode cX4_beginWith 25 = .ok (.putfield 22, 3) := by decide +kernel
theorem dX4_beginWith_28 : decode cX4_beginWith 28 = .ok (.aload_n 0, 1) := by decide +kernel
theorem dX4_beginWith_29 : decode cX4_beginWith 29 = .ok (.invokevirtual 72, 3) := by decide +kernel
theorem dX4_beginWith_32 : decode cX4_beginWith 32 = .ok (.return_, 1) := by decide +kernel
theorem dX4_clearDemands_0 : decode cX4_clearDemands 0 = .ok (.aload_n 0, 1) := by decide +kernel
theorem dX4_clearDemands_1 : decode cX4_clearDemands 1 = .ok (.iconst 0, 1) := by decide +kernel
theorem dX4_clearDemands_2 : decode cX4_clearDemands 2 = .ok (.putfield 28, 3) := by decide +kernel
theorem dX4_clearDemands_5 : decode cX4_clearDemands 5 = .ok (.iconst 0, 1) := by decide +kernel
theorem dX4_clearDemands_6 : decode cX4_clearDemands 6 = .ok (.istore_n 1, 1) := by decide +kernel
theorem dX4_clearDemands_7 : decode cX4_clearDemands 7 = .ok (.iload_n 1, 1) := by decide +kernel
theorem dX4_clearDemands_8 : decode cX4_clearDemands 8 = .ok (.bipush 40, 2) := by decide +kernel
theorem dX4_clearDemands_10 : decode cX4_clearDemands 10 = .ok (.if_icmp .ge 16, 3) := by decide +kernel
theorem dX4_clearDemands_13 : decode cX4_clearDemands 13 = .ok (.aload_n 0, 1) := by decide +kernel
theorem dX4_clearDemands_14 : decode cX4_clearDemands 14 = .ok (.getfield 41, 3) := by decide +kernel
theorem dX4_clearDemands_17 : decode cX4_clearDemands 17 = .ok (.iload_n 1, 1) := by decide +kernel
theorem dX4_clearDemands_18 : decode cX4_clearDemands 18 = .ok (.iconst 3, 1) := by decide +kernel
theorem dX4_clearDemands_19 : decode cX4_clearDemands 19 = .ok (.iastore, 1) := by decide +kernel
theorem dX4_clearDemands_20 : decode cX4_clearDemands 20 = .ok (.iinc 1 1, 3) := by decide +kernel
theorem dX4_clearDemands_23 : decode cX4_clearDemands 23 = .ok (.goto (-16), 3) := by decide +kernel
theorem dX4_clearDemands_26 : decode cX4_clearDemands 26 = .ok (.aload_n 0, 1) := by decide +kernel
theorem dX4_clearDemands_27 : decode cX4_clearDemands 27 = .ok (.invokevirtual 75, 3) := by decide +kernel
theorem dX4_clearDemands_30 : decode cX4_clearDemands 30 = .ok (.return_, 1) := by decide +kernel
theorem dX4_clearSlots_0 : decode cX4_clearSlots 0 = .ok (.iconst 0, 1) := by decide +kernel
theorem dX4_clearSlots_1 : decode cX4_clearSlots 1 = .ok (.istore_n 1, 1) := by decide +kernel
theorem dX4_clearSlots_2 : decode cX4_clearSlots 2 = .ok (.iload_n 1, 1) := by decide +kernel
theorem dX4_clearSlots_3 : decode cX4_clearSlots 3 = .ok (.bipush 14, 2) := by decide +kernel
theorem dX4_clearSlots_5 : decode cX4_clearSlots 5 = .ok (.if_icmp .ge 16, 3) := by decide +kernel
theorem dX4_clearSlots_8 : decode cX4_clearSlots 8 = .ok (.aload_n 0, 1) := by decide +kernel
theorem dX4_clearSlots_9 : decode cX4_clearSlots 9 = .ok (.getfield 60, 3) := by decide +kernel
theorem dX4_clearSlots_12 : decode cX4_clearSlots 12 = .ok (.iload_n 1, 1) := by decide +kernel
theorem dX4_clearSlots_13 : decode cX4_clearSlots 13 = .ok (.lconst 0, 1) := by decide +kernel
theorem dX4_clearSlots_14 : decode cX4_clearSlots 14 = .ok (.lastore, 1) := by decide +kernel
theorem dX4_clearSlots_15 : decode cX4_clearSlots 15 = .ok (.iinc 1 1, 3) := by decide +kernel
theorem dX4_clearSlots_18 : decode cX4_clearSlots 18 = .ok (.goto (-16), 3) := by decide +kernel
theorem dX4_clearSlots_21 : decode cX4_clearSlots 21 = .ok (.return_, 1) := by decide +kernel
theorem dX4_copy_0 : decode cX4_copy 0 = .ok (.aload_n 0, 1) := by decide +kernel
theorem dX4_copy_1 : decode cX4_copy 1 = .ok (.getfield 12, 3) := by decide +kernel
theorem dX4_copy_4 : decode cX4_copy 4 = .ok (.aload_n 1, 1) := by decide +kernel
theorem dX4_copy_5 : decode cX4_copy 5 = .ok (.getfield 12, 3) := by decide +kernel
theorem dX4_copy_8 : decode cX4_copy 8 = .ok (.invokevirtual 66, 3) := by decide +kernel
theorem dX4_copy_11 : decode cX4_copy 11 = .ok (.aload_n 0, 1) := by decide +kernel
theorem dX4_copy_12 : decode cX4_copy 12 = .ok (.aload_n 1, 1) := by decide +kernel
theorem dX4_copy_13 : decode cX4_copy 13 = .ok (.getfield 18, 3) := by decide +kernel
theorem dX4_copy_16 : decode cX4_copy 16 = .ok (.putfield 18, 3) := by decide +kernel
theorem dX4_copy_19 : decode cX4_copy 19 = .ok (.aload_n 0, 1) := by decide +kernel
theorem dX4_copy_20 : decode cX4_copy 20 = .ok (.aload_n 1, 1) := by decide +kernel
theorem dX4_copy_21 : decode cX4_copy 21 = .ok (.getfield 22, 3) := by decide +kernel
theorem dX4_copy_24 : decode cX4_copy 24 = .ok (.putfield 22, 3) := by decide +kernel
theorem dX4_copy_27 : decode cX4_copy 27 = .ok (.aload_n 0, 1) := by decide +kernel
theorem dX4_copy_28 : decode cX4_copy 28 = .ok (.aload_n 1, 1) := by decide +kernel
theorem dX4_copy_29 : decode cX4_copy 29 = .ok (.getfield 25, 3) := by decide +kernel
theorem dX4_copy_32 : decode cX4_copy 32 = .ok (.putfield 25, 3) := by decide +kernel
theorem dX4_copy_35 : decode cX4_copy 35 = .ok (.aload_n 0, 1) := by decide +kernel
theorem dX4_copy_36 : decode cX4_copy 36 = .ok (.aload_n 1, 1) := by decide +kernel
theorem dX4_copy_37 : decode cX4_copy 37 = .ok (.getfield 28, 3) := by decide +kernel
theorem dX4_copy_40 : decode cX4_copy 40 = .ok (.putfield 28, 3) := by decide +kernel
theorem dX4_copy_43 : decode cX4_copy 43 = .ok (.aload_n 1, 1) := by decide +kernel
theorem dX4_copy_44 : decode cX4_copy 44 = .ok (.getfield 31, 3) := by decide +kernel
theorem dX4_copy_47 : decode cX4_copy 47 = .ok (.iconst 0, 1) := by decide +kernel
theorem dX4_copy_48 : decode cX4_copy 48 = .ok (.aload_n 0, 1) := by decide +kernel
theorem dX4_copy_49 : decode cX4_copy 49 = .ok (.getfield 31, 3) := by decide +kernel
theorem dX4_copy_52 : decode cX4_copy 52 = .ok (.iconst 0, 1) := by decide +kernel
theorem dX4_copy_53 : decode cX4_copy 53 = .ok (.bipush 40, 2) := by decide +kernel
theorem dX4_copy_55 : decode cX4_copy 55 = .ok (.invokestatic 78, 3) := by decide +kernel
theorem dX4_copy_58 : decode cX4_copy 58 = .ok (.aload_n 1, 1) := by decide +kernel
theorem dX4_copy_59 : decode cX4_copy 59 = .ok (.getfield 35, 3) := by decide +kernel
theorem dX4_copy_62 : decode cX4_copy 62 = .ok (.iconst 0, 1) := by decide +kernel
theorem dX4_copy_63 : decode cX4_copy 63 = .ok (.aload_n 0, 1) := by decide +kernel
theorem dX4_copy_64 : decode cX4_copy 64 = .ok (.getfield 35, 3) := by decide +kernel
theorem dX4_copy_67 : decode cX4_copy 67 = .ok (.iconst 0, 1) := by decide +kernel
theorem dX4_copy_68 : decode cX4_copy 68 = .ok (.bipush 40, 2) := by decide +kernel
theorem dX4_copy_70 : decode cX4_copy 70 = .ok (.invokestatic 78, 3) := by decide +kernel
theorem dX4_copy_73 : decode cX4_copy 73 = .ok (.aload_n 1, 1) := by decide +kernel
theorem dX4_copy_74 : decode cX4_copy 74 = .ok (.getfield 38, 3) := by decide +kernel
theorem dX4_copy_77 : decode cX4_copy 77 = .ok (.iconst 0, 1) := by decide +kernel
theorem dX4_copy_78 : decode cX4_copy 78 = .ok (.aload_n 0, 1) := by decide +kernel
theorem dX4_copy_79 : decode cX4_copy 79 = .ok (.getfield 38, 3) := by decide +kernel
theorem dX4_copy_82 : decode cX4_copy 82 = .ok (.iconst 0, 1) := by decide +kernel
theorem dX4_copy_83 : decode cX4_copy 83 = .ok (.bipush 40, 2) := by decide +kernel
theorem dX4_copy_85 : decode cX4_copy 85 = .ok (.invokestatic 78, 3) := by decide +kernel
theorem dX4_copy_88 : decode cX4_copy 88 = .ok (.aload_n 1, 1) := by decide +kernel
theorem dX4_copy_89 : decode cX4_copy 89 = .ok (.getfield 41, 3) := by decide +kernel
theorem dX4_copy_92 : decode cX4_copy 92 = .ok (.iconst 0, 1) := by decide +kernel
theorem dX4_copy_93 : decode cX4_copy 93 = .ok (.aload_n 0, 1) := by decide +kernel
theorem dX4_copy_94 : decode cX4_copy 94 = .ok (.getfield 41, 3) := by decide +kernel
theorem dX4_copy_97 : decode cX4_copy 97 = .ok (.iconst 0, 1) := by decide +kernel
theorem dX4_copy_98 : decode cX4_copy 98 = .ok (.bipush 40, 2) := by decide +kernel
theorem dX4_copy_100 : decode cX4_copy 100 = .ok (.invokestatic 78, 3) := by decide +kernel
theorem dX4_copy_103 : decode cX4_copy 103 = .ok (.aload_n 1, 1) := by decide +kernel
theorem dX4_copy_104 : decode cX4_copy 104 = .ok (.getfield 44, 3) := by decide +kernel
theorem dX4_copy_107 : decode cX4_copy 107 = .ok (.iconst 0, 1) := by decide +kernel
theorem dX4_copy_108 : decode cX4_copy 108 = .ok (.aload_n 0, 1) := by decide +kernel
theorem dX4_copy_109 : decode cX4_copy 109 = .ok (.getfield 44, 3) := by decide +kernel
theorem dX4_copy_112 : decode cX4_copy 112 = .ok (.iconst 0, 1) := by decide +kernel
theorem dX4_copy_113 : decode cX4_copy 113 = .ok (.bipush 40, 2) := by decide +kernel
theorem dX4_copy_115 : decode cX4_copy 115 = .ok (.invokestatic 78, 3) := by decide +kernel
theorem dX4_copy_118 : decode cX4_copy 118 = .ok (.aload_n 1, 1) := by decide +kernel
theorem dX4_copy_119 : decode cX4_copy 119 = .ok (.getfield 47, 3) := by decide +kernel
theorem dX4_copy_122 : decode cX4_copy 122 = .ok (.iconst 0, 1) := by decide +kernel
theorem dX4_copy_123 : decode cX4_copy 123 = .ok (.aload_n 0, 1) := by decide +kernel
theorem dX4_copy_124 : decode cX4_copy 124 = .ok (.getfield 47, 3) := by decide +kernel
theorem dX4_copy_127 : decode cX4_copy 127 = .ok (.iconst 0, 1) := by decide +kernel
theorem dX4_copy_128 : decode cX4_copy 128 = .ok (.bipush 40, 2) := by decide +kernel
theorem dX4_copy_130 : decode cX4_copy 130 = .ok (.invokestatic 78, 3) := by decide +kernel
theorem dX4_copy_133 : decode cX4_copy 133 = .ok (.aload_n 1, 1) := by decide +kernel
theorem dX4_copy_134 : decode cX4_copy 134 = .ok (.getfield 50, 3) := by decide +kernel
theorem dX4_copy_137 : decode cX4_copy 137 = .ok (.iconst 0, 1) := by decide +kernel
theorem dX4_copy_138 : decode cX4_copy 138 = .ok (.aload_n 0, 1) := by decide +kernel
theorem dX4_copy_139 : decode cX4_copy 139 = .ok (.getfield 50, 3) := by decide +kernel
theorem dX4_copy_142 : decode cX4_copy 142 = .ok (.iconst 0, 1) := by decide +kernel
theorem dX4_copy_143 : decode cX4_copy 143 = .ok (.bipush 40, 2) := by decide +kernel
theorem dX4_copy_145 : decode cX4_copy 145 = .ok (.invokestatic 78, 3) := by decide +kernel
theorem dX4_copy_148 : decode cX4_copy 148 = .ok (.aload_n 1, 1) := by decide +kernel
theorem dX4_copy_149 : decode cX4_copy 149 = .ok (.getfield 53, 3) := by decide +kernel
theorem dX4_copy_152 : decode cX4_copy 152 = .ok (.iconst 0, 1) := by decide +kernel
theorem dX4_copy_153 : decode cX4_copy 153 = .ok (.aload_n 0, 1) := by decide +kernel
theorem dX4_copy_154 : decode cX4_copy 154 = .ok (.getfield 53, 3) := by decide +kernel
theorem dX4_copy_157 : decode cX4_copy 157 = .ok (.iconst 0, 1) := by decide +kernel
theorem dX4_copy_158 : decode cX4_copy 158 = .ok (.bipush 40, 2) := by decide +kernel
theorem dX4_copy_160 : decode cX4_copy 160 = .ok (.invokestatic 78, 3) := by decide +kernel
theorem dX4_copy_163 : decode cX4_copy 163 = .ok (.aload_n 1, 1) := by decide +kernel
theorem dX4_copy_164 : decode cX4_copy 164 = .ok (.getfield 56, 3) := by decide +kernel
theorem dX4_copy_167 : decode cX4_copy 167 = .ok (.iconst 0, 1) := by decide +kernel
theorem dX4_copy_168 : decode cX4_copy 168 = .ok (.aload_n 0, 1) := by decide +kernel
theorem dX4_copy_169 : decode cX4_copy 169 = .ok (.getfield 56, 3) := by decide +kernel
theorem dX4_copy_172 : decode cX4_copy 172 = .ok (.iconst 0, 1) := by decide +kernel
theorem dX4_copy_173 : decode cX4_copy 173 = .ok (.bipush 40, 2) := by decide +kernel
theorem dX4_copy_175 : decode cX4_copy 175 = .ok (.invokestatic 78, 3) := by decide +kernel
theorem dX4_copy_178 : decode cX4_copy 178 = .ok (.aload_n 1, 1) := by decide +kernel
theorem dX4_copy_179 : decode cX4_copy 179 = .ok (.getfield 60, 3) := by decide +kernel
theorem dX4_copy_182 : decode cX4_copy 182 = .ok (.iconst 0, 1) := by decide +kernel
theorem dX4_copy_183 : decode cX4_copy 183 = .ok (.aload_n 0, 1) := by decide +kernel
theorem dX4_copy_184 : decode cX4_copy 184 = .ok (.getfield 60, 3) := by decide +kernel
theorem dX4_copy_187 : decode cX4_copy 187 = .ok (.iconst 0, 1) := by decide +kernel
theorem dX4_copy_188 : decode cX4_copy 188 = .ok (.bipush 14, 2) := by decide +kernel
theorem dX4_copy_190 : decode cX4_copy 190 = .ok (.invokestatic 78, 3) := by decide +kernel
theorem dX4_copy_193 : decode cX4_copy 193 = .ok (.return_, 1) := by decide +kernel
theorem dX4_has_0 : decode cX4_has 0 = .ok (.iload_n 1, 1) := by decide +kernel
theorem dX4_has_1 : decode cX4_has 1 = .ok (.ifCond .lt 15, 3) := by decide +kernel
theorem dX4_has_4 : decode cX4_has 4 = .ok (.iload_n 1, 1) := by decide +kernel
theorem dX4_has_5 : decode cX4_has 5 = .ok (.aload_n 0, 1) := by decide +kernel
theorem dX4_has_6 : decode cX4_has 6 = .ok (.getfield 28, 3) := by decide +kernel
theorem dX4_has_9 : decode cX4_has 9 = .ok (.if_icmp .ge 7, 3) := by decide +kernel
theorem dX4_has_12 : decode cX4_has 12 = .ok (.iconst 1, 1) := by decide +kernel
theorem dX4_has_13 : decode cX4_has 13 = .ok (.goto 4, 3) := by decide +kernel
theorem dX4_has_16 : decode cX4_has 16 = .ok (.iconst 0, 1) := by decide +kernel
theorem dX4_has_17 : decode cX4_has 17 = .ok (.ireturn, 1) := by decide +kernel
theorem dX4_isLit_0 : decode cX4_isLit 0 = .ok (.aload_n 0, 1) := by decide +kernel
theorem dX4_isLit_1 : decode cX4_isLit 1 = .ok (.iload_n 1, 1) := by decide +kernel
theorem dX4_isLit_2 : decode cX4_isLit 2 = .ok (.invokevirtual 84, 3) := by decide +kernel
theorem dX4_isLit_5 : decode cX4_isLit 5 = .ok (.ifCond .eq 16, 3) := by decide +kernel
theorem dX4_isLit_8 : decode cX4_isLit 8 = .ok (.aload_n 0, 1) := by decide +kernel
theorem dX4_isLit_9 : decode cX4_isLit 9 = .ok (.getfield 41, 3) := by decide +kernel
theorem dX4_isLit_12 : decode cX4_isLit 12 = .ok (.iload_n 1, 1) := by decide +kernel
theorem dX4_isLit_13 : decode cX4_isLit 13 = .ok (.iaload, 1) := by decide +kernel
theorem dX4_isLit_14 : decode cX4_isLit 14 = .ok (.ifCond .ne 7, 3) := by decide +kernel
theorem dX4_isLit_17 : decode cX4_isLit 17 = .ok (.iconst 1, 1) := by decide +kernel
theorem dX4_isLit_18 : decode cX4_isLit 18 = .ok (.goto 4, 3) := by decide +kernel
theorem dX4_isLit_21 : decode cX4_isLit 21 = .ok (.iconst 0, 1) := by decide +kernel
theorem dX4_isLit_22 : decode cX4_isLit 22 = .ok (.ireturn, 1) := by decide +kernel
theorem dX4_isLitOrDark_0 : decode cX4_isLitOrDark 0 = .ok (.aload_n 0, 1) := by decide +kernel
theorem dX4_isLitOrDark_1 : decode cX4_isLitOrDark 1 = .ok (.iload_n 1, 1) := by decide +kernel
theorem dX4_isLitOrDark_2 : decode cX4_isLitOrDark 2 = .ok (.invokevirtual 84, 3) := by decide +kernel
theorem dX4_isLitOrDark_5 : decode cX4_isLitOrDark 5 = .ok (.ifCond .eq 26, 3) := by decide +kernel
theorem dX4_isLitOrDark_8 : decode cX4_isLitOrDark 8 = .ok (.aload_n 0, 1) := by decide +kernel
theorem dX4_isLitOrDark_9 : decode cX4_isLitOrDark 9 = .ok (.getfield 41, 3) := by decide +kernel
theorem dX4_isLitOrDark_12 : decode cX4_isLitOrDark 12 = .ok (.iload_n 1, 1) := by decide +kernel
theorem dX4_isLitOrDark_13 : decode cX4_isLitOrDark 13 = .ok (.iaload, 1) := by decide +kernel
theorem dX4_isLitOrDark_14 : decode cX4_isLitOrDark 14 = .ok (.ifCond .eq 13, 3) := by decide +kernel
theorem dX4_isLitOrDark_17 : decode cX4_isLitOrDark 17 = .ok (.aload_n 0, 1) := by decide +kernel
theorem dX4_isLitOrDark_18 : decode cX4_isLitOrDark 18 = .ok (.getfield 41, 3) := by decide +kernel
theorem dX4_isLitOrDark_21 : decode cX4_isLitOrDark 21 = .ok (.iload_n 1, 1) := by decide +kernel
theorem dX4_isLitOrDark_22 : decode cX4_isLitOrDark 22 = .ok (.iaload, 1) := by decide +kernel
theorem dX4_isLitOrDark_23 : decode cX4_isLitOrDark 23 = .ok (.iconst 2, 1) := by decide +kernel
theorem dX4_isLitOrDark_24 : decode cX4_isLitOrDark 24 = .ok (.if_icmp .ne 7, 3) := by decide +kernel
theorem dX4_isLitOrDark_27 : decode cX4_isLitOrDark 27 = .ok (.iconst 1, 1) := by decide +kernel
theorem dX4_isLitOrDark_28 : decode cX4_isLitOrDark 28 = .ok (.goto 4, 3) := by decide +kernel
theorem dX4_isLitOrDark_31 : decode cX4_isLitOrDark 31 = .ok (.iconst 0, 1) := by decide +kernel
theorem dX4_isLitOrDark_32 : decode cX4_isLitOrDark 32 = .ok (.ireturn, 1) := by decide +kernel
theorem dX4_hasLink_0 : decode cX4_hasLink 0 = .ok (.iload_n 1, 1) := by decide +kernel
theorem dX4_hasLink_1 : decode cX4_hasLink 1 = .ok (.ifCond .lt 18, 3) := by decide +kernel
theorem dX4_hasLink_4 : decode cX4_hasLink 4 = .ok (.iload_n 1, 1) := by decide +kernel
theorem dX4_hasLink_5 : decode cX4_hasLink 5 = .ok (.aload_n 0, 1) := by decide +kernel
theorem dX4_hasLink_6 : decode cX4_hasLink 6 = .ok (.getfield 12, 3) := by decide +kernel
theorem dX4_hasLink_9 : decode cX4_hasLink 9 = .ok (.getfield 70, 3) := by decide +kernel
theorem dX4_hasLink_12 : decode cX4_hasLink 12 = .ok (.if_icmp .ge 7, 3) := by decide +kernel
theorem dX4_hasLink_15 : decode cX4_hasLink 15 = .ok (.iconst 1, 1) := by decide +kernel
theorem dX4_hasLink_16 : decode cX4_hasLink 16 = .ok (.goto 4, 3) := by decide +kernel
theorem dX4_hasLink_19 : decode cX4_hasLink 19 = .ok (.iconst 0, 1) := by decide +kernel
theorem dX4_hasLink_20 : decode cX4_hasLink 20 = .ok (.ireturn, 1) := by decide +kernel
theorem dX4_isUp_0 : decode cX4_isUp 0 = .ok (.aload_n 0, 1) := by decide +kernel
theorem dX4_isUp_1 : decode cX4_isUp 1 = .ok (.getfield 18, 3) := by decide +kernel
theorem dX4_isUp_4 : decode cX4_isUp 4 = .ok (.iload_n 1, 1) := by decide +kernel
theorem dX4_isUp_5 : decode cX4_isUp 5 = .ok (.iushr, 1) := by decide +kernel
theorem dX4_isUp_6 : decode cX4_isUp 6 = .ok (.iconst 1, 1) := by decide +kernel
theorem dX4_isUp_7 : decode cX4_isUp 7 = .ok (.iand, 1) := by decide +kernel
theorem dX4_isUp_8 : decode cX4_isUp 8 = .ok (.ifCond .eq 7, 3) := by decide +kernel
theorem dX4_isUp_11 : decode cX4_isUp 11 = .ok (.iconst 1, 1) := by decide +kernel
theorem dX4_isUp_12 : decode cX4_isUp 12 = .ok (.goto 4, 3) := by decide +kernel
theorem dX4_isUp_15 : decode cX4_isUp 15 = .ok (.iconst 0, 1) := by decide +kernel
theorem dX4_isUp_16 : decode cX4_isUp 16 = .ok (.ireturn, 1) := by decide +kernel
theorem dX4_add_0 : decode cX4_add 0 = .ok (.aload_n 0, 1) := by decide +kernel
theorem dX4_add_1 : decode cX4_add 1 = .ok (.getfield 28, 3) := by decide +kernel
theorem dX4_add_4 : decode cX4_add 4 = .ok (.istore 4, 2) := by decide +kernel
theorem dX4_add_6 : decode cX4_add 6 = .ok (.aload_n 0, 1) := by decide +kernel
theorem dX4_add_7 : decode cX4_add 7 = .ok (.getfield 31, 3) := by decide +kernel
theorem dX4_add_10 : decode cX4_add 10 = .ok (.iload 4, 2) := by decide +kernel
theorem dX4_add_12 : decode cX4_add 12 = .ok (.iload_n 1, 1) := by decide +kernel
theorem dX4_add_13 : decode cX4_add 13 = .ok (.iastore, 1) := by decide +kernel
theorem dX4_add_14 : decode cX4_add 14 = .ok (.aload_n 0, 1) := by decide +kernel
theorem dX4_add_15 : decode cX4_add 15 = .ok (.getfield 35, 3) := by decide +kernel
theorem dX4_add_18 : decode cX4_add 18 = .ok (.iload 4, 2) := by decide +kernel
theorem dX4_add_20 : decode cX4_add 20 = .ok (.iload_n 2, 1) := by decide +kernel
theorem dX4_add_21 : decode cX4_add 21 = .ok (.iastore, 1) := by decide +kernel
theorem dX4_add_22 : decode cX4_add 22 = .ok (.aload_n 0, 1) := by decide +kernel
theorem dX4_add_23 : decode cX4_add 23 = .ok (.getfield 38, 3) := by decide +kernel
theorem dX4_add_26 : decode cX4_add 26 = .ok (.iload 4, 2) := by decide +kernel
theorem dX4_add_28 : decode cX4_add 28 = .ok (.iload_n 3, 1) := by decide +kernel
theorem dX4_add_29 : decode cX4_add 29 = .ok (.iastore, 1) := by decide +kernel
theorem dX4_add_30 : decode cX4_add 30 = .ok (.aload_n 0, 1) := by decide +kernel
theorem dX4_add_31 : decode cX4_add 31 = .ok (.getfield 41, 3) := by decide +kernel
theorem dX4_add_34 : decode cX4_add 34 = .ok (.iload 4, 2) := by decide +kernel
theorem dX4_add_36 : decode cX4_add 36 = .ok (.iconst 1, 1) := by decide +kernel
theorem dX4_add_37 : decode cX4_add 37 = .ok (.iastore, 1) := by decide +kernel
theorem dX4_add_38 : decode cX4_add 38 = .ok (.aload_n 0, 1) := by decide +kernel
theorem dX4_add_39 : decode cX4_add 39 = .ok (.getfield 44, 3) := by decide +kernel
theorem dX4_add_42 : decode cX4_add 42 = .ok (.iload 4, 2) := by decide +kernel
theorem dX4_add_44 : decode cX4_add 44 = .ok (.iconst (-1), 1) := by decide +kernel
theorem dX4_add_45 : decode cX4_add 45 = .ok (.iastore, 1) := by decide +kernel
theorem dX4_add_46 : decode cX4_add 46 = .ok (.aload_n 0, 1) := by decide +kernel
theorem dX4_add_47 : decode cX4_add 47 = .ok (.dup, 1) := by decide +kernel
theorem dX4_add_48 : decode cX4_add 48 = .ok (.getfield 28, 3) := by decide +kernel
theorem dX4_add_51 : decode cX4_add 51 = .ok (.iconst 1, 1) := by decide +kernel
theorem dX4_add_52 : decode cX4_add 52 = .ok (.iadd, 1) := by decide +kernel
theorem dX4_add_53 : decode cX4_add 53 = .ok (.putfield 28, 3) := by decide +kernel
theorem dX4_add_56 : decode cX4_add 56 = .ok (.iload 4, 2) := by decide +kernel
theorem dX4_add_58 : decode cX4_add 58 = .ok (.ireturn, 1) := by decide +kernel
theorem dX4_put_0 : decode cX4_put 0 = .ok (.aload_n 0, 1) := by decide +kernel
theorem dX4_put_1 : decode cX4_put 1 = .ok (.getfield 41, 3) := by decide +kernel
theorem dX4_put_4 : decode cX4_put 4 = .ok (.iload_n 1, 1) := by decide +kernel
theorem dX4_put_5 : decode cX4_put 5 = .ok (.iconst 0, 1) := by decide +kernel
theorem dX4_put_6 : decode cX4_put 6 = .ok (.iastore, 1) := by decide +kernel
theorem dX4_put_7 : decode cX4_put 7 = .ok (.aload_n 0, 1) := by decide +kernel
theorem dX4_put_8 : decode cX4_put 8 = .ok (.getfield 47, 3) := by decide +kernel
theorem dX4_put_11 : decode cX4_put 11 = .ok (.iload_n 1, 1) := by decide +kernel
theorem dX4_put_12 : decode cX4_put 12 = .ok (.iload_n 2, 1) := by decide +kernel
theorem dX4_put_13 : decode cX4_put 13 = .ok (.iastore, 1) := by decide +kernel
theorem dX4_put_14 : decode cX4_put 14 = .ok (.aload_n 0, 1) := by decide +kernel
theorem dX4_put_15 : decode cX4_put 15 = .ok (.getfield 50, 3) := by decide +kernel
theorem dX4_put_18 : decode cX4_put 18 = .ok (.iload_n 1, 1) := by decide +kernel
theorem dX4_put_19 : decode cX4_put 19 = .ok (.iload_n 3, 1) := by decide +kernel
theorem dX4_put_20 : decode cX4_put 20 = .ok (.iastore, 1) := by decide +kernel
theorem dX4_put_21 : decode cX4_put 21 = .ok (.aload_n 0, 1) := by decide +kernel
theorem dX4_put_22 : decode cX4_put 22 = .ok (.getfield 53, 3) := by decide +kernel
theorem dX4_put_25 : decode cX4_put 25 = .ok (.iload_n 1, 1) := by decide +kernel
theorem dX4_put_26 : decode cX4_put 26 = .ok (.iload 4, 2) := by decide +kernel
theorem dX4_put_28 : decode cX4_put 28 = .ok (.iastore, 1) := by decide +kernel
theorem dX4_put_29 : decode cX4_put 29 = .ok (.aload_n 0, 1) := by decide +kernel
theorem dX4_put_30 : decode cX4_put 30 = .ok (.getfield 56, 3) := by decide +kernel
theorem dX4_put_33 : decode cX4_put 33 = .ok (.iload_n 1, 1) := by decide +kernel
theorem dX4_put_34 : decode cX4_put 34 = .ok (.iload_n 3, 1) := by decide +kernel
theorem dX4_put_35 : decode cX4_put 35 = .ok (.iload_n 3, 1) := by decide +kernel
theorem dX4_put_36 : decode cX4_put 36 = .ok (.iload 4, 2) := by decide +kernel
theorem dX4_put_38 : decode cX4_put 38 = .ok (.iadd, 1) := by decide +kernel
theorem dX4_put_39 : decode cX4_put 39 = .ok (.invokestatic 88, 3) := by decide +kernel
theorem dX4_put_42 : decode cX4_put 42 = .ok (.lastore, 1) := by decide +kernel
theorem dX4_put_43 : decode cX4_put 43 = .ok (.aload_n 0, 1) := by decide +kernel
theorem dX4_put_44 : decode cX4_put 44 = .ok (.iload_n 2, 1) := by decide +kernel
theorem dX4_put_45 : decode cX4_put 45 = .ok (.aload_n 0, 1) := by decide +kernel
theorem dX4_put_46 : decode cX4_put 46 = .ok (.getfield 56, 3) := by decide +kernel
theorem dX4_put_49 : decode cX4_put 49 = .ok (.iload_n 1, 1) := by decide +kernel
theorem dX4_put_50 : decode cX4_put 50 = .ok (.laload, 1) := by decide +kernel
theorem dX4_put_51 : decode cX4_put 51 = .ok (.invokevirtual 92, 3) := by decide +kernel
theorem dX4_put_54 : decode cX4_put 54 = .ok (.return_, 1) := by decide +kernel
theorem dX4_fill_0 : decode cX4_fill 0 = .ok (.iconst 0, 1) := by decide +kernel
theorem dX4_fill_1 : decode cX4_fill 1 = .ok (.istore 4, 2) := by decide +kernel
theorem dX4_fill_3 : decode cX4_fill 3 = .ok (.iload 4, 2) := by decide +kernel
theorem dX4_fill_5 : decode cX4_fill 5 = .ok (.aload_n 0, 1) := by decide +kernel
theorem dX4_fill_6 : decode cX4_fill 6 = .ok (.getfield 12, 3) := by decide +kernel
theorem dX4_fill_9 : decode cX4_fill 9 = .ok (.getfield 70, 3) := by decide +kernel
theorem dX4_fill_12 : decode cX4_fill 12 = .ok (.if_icmp .ge 29, 3) := by decide +kernel
theorem dX4_fill_15 : decode cX4_fill 15 = .ok (.iload_n 1, 1) := by decide +kernel
theorem dX4_fill_16 : decode cX4_fill 16 = .ok (.iload 4, 2) := by decide +kernel
theorem dX4_fill_18 : decode cX4_fill 18 = .ok (.iushr, 1) := by decide +kernel
theorem dX4_fill_19 : decode cX4_fill 19 = .ok (.iconst 1, 1) := by decide +kernel
theorem dX4_fill_20 : decode cX4_fill 20 = .ok (.iand, 1) := by decide +kernel
theorem dX4_fill_21 : decode cX4_fill 21 = .ok (.ifCond .eq 14, 3) := by decide +kernel
theorem dX4_fill_24 : decode cX4_fill 24 = .ok (.aload_n 0, 1) := by decide +kernel
theorem dX4_fill_25 : decode cX4_fill 25 = .ok (.getfield 60, 3) := by decide +kernel
theorem dX4_fill_28 : decode cX4_fill 28 = .ok (.iload 4, 2) := by decide +kernel
theorem dX4_fill_30 : decode cX4_fill 30 = .ok (.dup2, 1) := by decide +kernel
theorem dX4_fill_31 : decode cX4_fill 31 = .ok (.laload, 1) := by decide +kernel
theorem dX4_fill_32 : decode cX4_fill 32 = .ok (.lload_n 2, 1) := by decide +kernel
theorem dX4_fill_33 : decode cX4_fill 33 = .ok (.lor, 1) := by decide +kernel
theorem dX4_fill_34 : decode cX4_fill 34 = .ok (.lastore, 1) := by decide +kernel
theorem dX4_fill_35 : decode cX4_fill 35 = .ok (.iinc 4 1, 3) := by decide +kernel
theorem dX4_fill_38 : decode cX4_fill 38 = .ok (.goto (-35), 3) := by decide +kernel
theorem dX4_fill_41 : decode cX4_fill 41 = .ok (.return_, 1) := by decide +kernel
theorem dX4_takeOff_0 : decode cX4_takeOff 0 = .ok (.aload_n 0, 1) := by decide +kernel
theorem dX4_takeOff_1 : decode cX4_takeOff 1 = .ok (.getfield 41, 3) := by decide +kernel
theorem dX4_takeOff_4 : decode cX4_takeOff 4 = .ok (.iload_n 1, 1) := by decide +kernel
theorem dX4_takeOff_5 : decode cX4_takeOff 5 = .ok (.iaload, 1) := by decide +kernel
theorem dX4_takeOff_6 : decode cX4_takeOff 6 = .ok (.ifCond .ne 54, 3) := by decide +kernel
theorem dX4_takeOff_9 : decode cX4_takeOff 9 = .ok (.iconst 0, 1) := by decide +kernel
theorem dX4_takeOff_10 : decode cX4_takeOff 10 = .ok (.istore_n 3, 1) := by decide +kernel
theorem dX4_takeOff_11 : decode cX4_takeOff 11 = .ok (.iload_n 3, 1) := by decide +kernel
theorem dX4_takeOff_12 : decode cX4_takeOff 12 = .ok (.aload_n 0, 1) := by decide +kernel
theorem dX4_takeOff_13 : decode cX4_takeOff 13 = .ok (.getfield 12, 3) := by decide +kernel
theorem dX4_takeOff_16 : decode cX4_takeOff 16 = .ok (.getfield 70, 3) := by decide +kernel
theorem dX4_takeOff_19 : decode cX4_takeOff 19 = .ok (.if_icmp .ge 41, 3) := by decide +kernel
theorem dX4_takeOff_22 : decode cX4_takeOff 22 = .ok (.aload_n 0, 1) := by decide +kernel
theorem dX4_takeOff_23 : decode cX4_takeOff 23 = .ok (.getfield 47, 3) := by decide +kernel
theorem dX4_takeOff_26 : decode cX4_takeOff 26 = .ok (.iload_n 1, 1) := by decide +kernel
theorem dX4_takeOff_27 : decode cX4_takeOff 27 = .ok (.iaload, 1) := by decide +kernel
theorem dX4_takeOff_28 : decode cX4_takeOff 28 = .ok (.iload_n 3, 1) := by decide +kernel
theorem dX4_takeOff_29 : decode cX4_takeOff 29 = .ok (.iushr, 1) := by decide +kernel
theorem dX4_takeOff_30 : decode cX4_takeOff 30 = .ok (.iconst 1, 1) := by decide +kernel
theorem dX4_takeOff_31 : decode cX4_takeOff 31 = .ok (.iand, 1) := by decide +kernel
theorem dX4_takeOff_32 : decode cX4_takeOff 32 = .ok (.ifCond .eq 22, 3) := by decide +kernel
theorem dX4_takeOff_35 : decode cX4_takeOff 35 = .ok (.aload_n 0, 1) := by decide +kernel
theorem dX4_takeOff_36 : decode cX4_takeOff 36 = .ok (.getfield 60, 3) := by decide +kernel
theorem dX4_takeOff_39 : decode cX4_takeOff 39 = .ok (.iload_n 3, 1) := by decide +kernel
theorem dX4_takeOff_40 : decode cX4_takeOff 40 = .ok (.dup2, 1) := by decide +kernel
theorem dX4_takeOff_41 : decode cX4_takeOff 41 = .ok (.laload, 1) := by decide +kernel
theorem dX4_takeOff_42 : decode cX4_takeOff 42 = .ok (.aload_n 0, 1) := by decide +kernel
theorem dX4_takeOff_43 : decode cX4_takeOff 43 = .ok (.getfield 56, 3) := by decide +kernel
theorem dX4_takeOff_46 : decode cX4_takeOff 46 = .ok (.iload_n 1, 1) := by decide +kernel
theorem dX4_takeOff_47 : decode cX4_takeOff 47 = .ok (.laload, 1) := by decide +kernel
theorem dX4_takeOff_48 : decode cX4_takeOff 48 = .ok (.ldc2_w 96, 3) := by decide +kernel
theorem dX4_takeOff_51 : decode cX4_takeOff 51 = .ok (.lxor, 1) := by decide +kernel
theorem dX4_takeOff_52 : decode cX4_takeOff 52 = .ok (.land, 1) := by decide +kernel
theorem dX4_takeOff_53 : decode cX4_takeOff 53 = .ok (.lastore, 1) := by decide +kernel
theorem dX4_takeOff_54 : decode cX4_takeOff 54 = .ok (.iinc 3 1, 3) := by decide +kernel
theorem dX4_takeOff_57 : decode cX4_takeOff 57 = .ok (.goto (-46), 3) := by decide +kernel
theorem dX4_takeOff_60 : decode cX4_takeOff 60 = .ok (.aload_n 0, 1) := by decide +kernel
theorem dX4_takeOff_61 : decode cX4_takeOff 61 = .ok (.getfield 41, 3) := by decide +kernel
theorem dX4_takeOff_64 : decode cX4_takeOff 64 = .ok (.iload_n 1, 1) := by decide +kernel
theorem dX4_takeOff_65 : decode cX4_takeOff 65 = .ok (.iload_n 2, 1) := by decide +kernel
theorem dX4_takeOff_66 : decode cX4_takeOff 66 = .ok (.iastore, 1) := by decide +kernel
theorem dX4_takeOff_67 : decode cX4_takeOff 67 = .ok (.return_, 1) := by decide +kernel
theorem dX4_move_0 : decode cX4_move 0 = .ok (.aload_n 0, 1) := by decide +kernel
theorem dX4_move_1 : decode cX4_move 1 = .ok (.iload_n 1, 1) := by decide +kernel
theorem dX4_move_2 : decode cX4_move 2 = .ok (.iconst 3, 1) := by decide +kernel
theorem dX4_move_3 : decode cX4_move 3 = .ok (.invokevirtual 98, 3) := by decide +kernel
theorem dX4_move_6 : decode cX4_move 6 = .ok (.aload_n 0, 1) := by decide +kernel
theorem dX4_move_7 : decode cX4_move 7 = .ok (.iload_n 1, 1) := by decide +kernel
theorem dX4_move_8 : decode cX4_move 8 = .ok (.iload_n 2, 1) := by decide +kernel
theorem dX4_move_9 : decode cX4_move 9 = .ok (.iload_n 3, 1) := by decide +kernel
theorem dX4_move_10 : decode cX4_move 10 = .ok (.iload 4, 2) := by decide +kernel
theorem dX4_move_12 : decode cX4_move 12 = .ok (.invokevirtual 102, 3) := by decide +kernel
theorem dX4_move_15 : decode cX4_move 15 = .ok (.return_, 1) := by decide +kernel
theorem dX4_busy_0 : decode cX4_busy 0 = .ok (.iload_n 2, 1) := by decide +kernel
theorem dX4_busy_1 : decode cX4_busy 1 = .ok (.ifCond .lt 22, 3) := by decide +kernel
theorem dX4_busy_4 : decode cX4_busy 4 = .ok (.iload_n 2, 1) := by decide +kernel
theorem dX4_busy_5 : decode cX4_busy 5 = .ok (.bipush 40, 2) := by decide +kernel
theorem dX4_busy_7 : decode cX4_busy 7 = .ok (.if_icmp .ge 16, 3) := by decide +kernel
theorem dX4_busy_10 : decode cX4_busy 10 = .ok (.aload_n 0, 1) := by decide +kernel
theorem dX4_busy_11 : decode cX4_busy 11 = .ok (.getfield 41, 3) := by decide +kernel
theorem dX4_busy_14 : decode cX4_busy 14 = .ok (.iload_n 2, 1) := by decide +kernel
theorem dX4_busy_15 : decode cX4_busy 15 = .ok (.iaload, 1) := by decide +kernel
theorem dX4_busy_16 : decode cX4_busy 16 = .ok (.ifCond .ne 7, 3) := by decide +kernel
theorem dX4_busy_19 : decode cX4_busy 19 = .ok (.iconst 1, 1) := by decide +kernel
theorem dX4_busy_20 : decode cX4_busy 20 = .ok (.goto 4, 3) := by decide +kernel
theorem dX4_busy_23 : decode cX4_busy 23 = .ok (.iconst 0, 1) := by decide +kernel
theorem dX4_busy_24 : decode cX4_busy 24 = .ok (.istore_n 3, 1) := by decide +kernel
theorem dX4_busy_25 : decode cX4_busy 25 = .ok (.lconst 0, 1) := by decide +kernel
theorem dX4_busy_26 : decode cX4_busy 26 = .ok (.lstore 4, 2) := by decide +kernel
theorem dX4_busy_28 : decode cX4_busy 28 = .ok (.iconst 0, 1) := by decide +kernel
theorem dX4_busy_29 : decode cX4_busy 29 = .ok (.istore 6, 2) := by decide +kernel
theorem dX4_busy_31 : decode cX4_busy 31 = .ok (.iload 6, 2) := by decide +kernel
theorem dX4_busy_33 : decode cX4_busy 33 = .ok (.aload_n 0, 1) := by decide +kernel
theorem dX4_busy_34 : decode cX4_busy 34 = .ok (.getfield 12, 3) := by decide +kernel
theorem dX4_busy_37 : decode cX4_busy 37 = .ok (.getfield 70, 3) := by decide +kernel
theorem dX4_busy_40 : decode cX4_busy 40 = .ok (.if_icmp .ge 81, 3) := by decide +kernel
theorem dX4_busy_43 : decode cX4_busy 43 = .ok (.iload_n 1, 1) := by decide +kernel
theorem dX4_busy_44 : decode cX4_busy 44 = .ok (.iload 6, 2) := by decide +kernel
theorem dX4_busy_46 : decode cX4_busy 46 = .ok (.iushr, 1) := by decide +kernel
theorem dX4_busy_47 : decode cX4_busy 47 = .ok (.iconst 1, 1) := by decide +kernel
theorem dX4_busy_48 : decode cX4_busy 48 = .ok (.iand, 1) := by decide +kernel
theorem dX4_busy_49 : decode cX4_busy 49 = .ok (.ifCond .eq 66, 3) := by decide +kernel
theorem dX4_busy_52 : decode cX4_busy 52 = .ok (.iload_n 3, 1) := by decide +kernel
theorem dX4_busy_53 : decode cX4_busy 53 = .ok (.ifCond .eq 21, 3) := by decide +kernel
theorem dX4_busy_56 : decode cX4_busy 56 = .ok (.aload_n 0, 1) := by decide +kernel
theorem dX4_busy_57 : decode cX4_busy 57 = .ok (.getfield 47, 3) := by decide +kernel
theorem dX4_busy_60 : decode cX4_busy 60 = .ok (.iload_n 2, 1) := by decide +kernel
theorem dX4_busy_61 : decode cX4_busy 61 = .ok (.iaload, 1) := by decide +kernel
theorem dX4_busy_62 : decode cX4_busy 62 = .ok (.iload 6, 2) := by decide +kernel
theorem dX4_busy_64 : decode cX4_busy 64 = .ok (.iushr, 1) := by decide +kernel
theorem dX4_busy_65 : decode cX4_busy 65 = .ok (.iconst 1, 1) := by decide +kernel
theorem dX4_busy_66 : decode cX4_busy 66 = .ok (.iand, 1) := by decide +kernel
theorem dX4_busy_67 : decode cX4_busy 67 = .ok (.ifCond .eq 7, 3) := by decide +kernel
theorem dX4_busy_70 : decode cX4_busy 70 = .ok (.iconst 1, 1) := by decide +kernel
theorem dX4_busy_71 : decode cX4_busy 71 = .ok (.goto 4, 3) := by decide +kernel
theorem dX4_busy_74 : decode cX4_busy 74 = .ok (.iconst 0, 1) := by decide +kernel
theorem dX4_busy_75 : decode cX4_busy 75 = .ok (.istore 7, 2) := by decide +kernel
theorem dX4_busy_77 : decode cX4_busy 77 = .ok (.lload 4, 2) := by decide +kernel
theorem dX4_busy_79 : decode cX4_busy 79 = .ok (.iload 7, 2) := by decide +kernel
theorem dX4_busy_81 : decode cX4_busy 81 = .ok (.ifCond .eq 24, 3) := by decide +kernel
theorem dX4_busy_84 : decode cX4_busy 84 = .ok (.aload_n 0, 1) := by decide +kernel
theorem dX4_busy_85 : decode cX4_busy 85 = .ok (.getfield 60, 3) := by decide +kernel
theorem dX4_busy_88 : decode cX4_busy 88 = .ok (.iload 6, 2) := by decide +kernel
theorem dX4_busy_90 : decode cX4_busy 90 = .ok (.laload, 1) := by decide +kernel
theorem dX4_busy_91 : decode cX4_busy 91 = .ok (.aload_n 0, 1) := by decide +kernel
theorem dX4_busy_92 : decode cX4_busy 92 = .ok (.getfield 56, 3) := by decide +kernel
theorem dX4_busy_95 : decode cX4_busy 95 = .ok (.iload_n 2, 1) := by decide +kernel
theorem dX4_busy_96 : decode cX4_busy 96 = .ok (.laload, 1) := by decide +kernel
theorem dX4_busy_97 : decode cX4_busy 97 = .ok (.ldc2_w 96, 3) := by decide +kernel
theorem dX4_busy_100 : decode cX4_busy 100 = .ok (.lxor, 1) := by decide +kernel
theorem dX4_busy_101 : decode cX4_busy 101 = .ok (.land, 1) := by decide +kernel
theorem dX4_busy_102 : decode cX4_busy 102 = .ok (.goto 10, 3) := by decide +kernel
theorem dX4_busy_105 : decode cX4_busy 105 = .ok (.aload_n 0, 1) := by decide +kernel
theorem dX4_busy_106 : decode cX4_busy 106 = .ok (.getfield 60, 3) := by decide +kernel
theorem dX4_busy_109 : decode cX4_busy 109 = .ok (.iload 6, 2) := by decide +kernel
theorem dX4_busy_111 : decode cX4_busy 111 = .ok (.laload, 1) := by decide +kernel
theorem dX4_busy_112 : decode cX4_busy 112 = .ok (.lor, 1) := by decide +kernel
theorem dX4_busy_113 : decode cX4_busy 113 = .ok (.lstore 4, 2) := by decide +kernel
theorem dX4_busy_115 : decode cX4_busy 115 = .ok (.iinc 6 1, 3) := by decide +kernel
theorem dX4_busy_118 : decode cX4_busy 118 = .ok (.goto (-87), 3) := by decide +kernel
theorem dX4_busy_121 : decode cX4_busy 121 = .ok (.lload 4, 2) := by decide +kernel
theorem dX4_busy_123 : decode cX4_busy 123 = .ok (.lreturn, 1) := by decide +kernel
theorem dX4_fitting_0 : decode cX4_fitting 0 = .ok (.aload_n 0, 1) := by decide +kernel
theorem dX4_fitting_1 : decode cX4_fitting 1 = .ok (.iload_n 1, 1) := by decide +kernel
theorem dX4_fitting_2 : decode cX4_fitting 2 = .ok (.iload_n 3, 1) := by decide +kernel
theorem dX4_fitting_3 : decode cX4_fitting 3 = .ok (.invokevirtual 106, 3) := by decide +kernel
theorem dX4_fitting_6 : decode cX4_fitting 6 = .ok (.lstore 4, 2) := by decide +kernel
theorem dX4_fitting_8 : decode cX4_fitting 8 = .ok (.lload 4, 2) := by decide +kernel
theorem dX4_fitting_10 : decode cX4_fitting 10 = .ok (.lstore 6, 2) := by decide +kernel
theorem dX4_fitting_12 : decode cX4_fitting 12 = .ok (.iconst 1, 1) := by decide +kernel
theorem dX4_fitting_13 : decode cX4_fitting 13 = .ok (.istore 8, 2) := by decide +kernel
theorem dX4_fitting_15 : decode cX4_fitting 15 = .ok (.iload 8, 2) := by decide +kernel
theorem dX4_fitting_17 : decode cX4_fitting 17 = .ok (.aload_n 0, 1) := by decide +kernel
theorem dX4_fitting_18 : decode cX4_fitting 18 = .ok (.getfield 12, 3) := by decide +kernel
theorem dX4_fitting_21 : decode cX4_fitting 21 = .ok (.getfield 109, 3) := by decide +kernel
theorem dX4_fitting_24 : decode cX4_fitting 24 = .ok (.if_icmp .gt 25, 3) := by decide +kernel
theorem dX4_fitting_27 : decode cX4_fitting 27 = .ok (.lload 6, 2) := by decide +kernel
theorem dX4_fitting_29 : decode cX4_fitting 29 = .ok (.lload 4, 2) := by decide +kernel
theorem dX4_fitting_31 : decode cX4_fitting 31 = .ok (.iload 8, 2) := by decide +kernel
theorem dX4_fitting_33 : decode cX4_fitting 33 = .ok (.lshl, 1) := by decide +kernel
theorem dX4_fitting_34 : decode cX4_fitting 34 = .ok (.lload 4, 2) := by decide +kernel
theorem dX4_fitting_36 : decode cX4_fitting 36 = .ok (.iload 8, 2) := by decide +kernel
theorem dX4_fitting_38 : decode cX4_fitting 38 = .ok (.lushr, 1) := by decide +kernel
theorem dX4_fitting_39 : decode cX4_fitting 39 = .ok (.lor, 1) := by decide +kernel
theorem dX4_fitting_40 : decode cX4_fitting 40 = .ok (.lor, 1) := by decide +kernel
theorem dX4_fitting_41 : decode cX4_fitting 41 = .ok (.lstore 6, 2) := by decide +kernel
theorem dX4_fitting_43 : decode cX4_fitting 43 = .ok (.iinc 8 1, 3) := by decide +kernel
theorem dX4_fitting_46 : decode cX4_fitting 46 = .ok (.goto (-31), 3) := by decide +kernel
theorem dX4_fitting_49 : decode cX4_fitting 49 = .ok (.aload_n 0, 1) := by decide +kernel
theorem dX4_fitting_50 : decode cX4_fitting 50 = .ok (.getfield 12, 3) := by decide +kernel
theorem dX4_fitting_53 : decode cX4_fitting 53 = .ok (.invokevirtual 112, 3) := by decide +kernel
theorem dX4_fitting_56 : decode cX4_fitting 56 = .ok (.lload 6, 2) := by decide +kernel
theorem dX4_fitting_58 : decode cX4_fitting 58 = .ok (.ldc2_w 96, 3) := by decide +kernel
theorem dX4_fitting_61 : decode cX4_fitting 61 = .ok (.lxor, 1) := by decide +kernel
theorem dX4_fitting_62 : decode cX4_fitting 62 = .ok (.land, 1) := by decide +kernel
theorem dX4_fitting_63 : decode cX4_fitting 63 = .ok (.iload_n 2, 1) := by decide +kernel
theorem dX4_fitting_64 : decode cX4_fitting 64 = .ok (.invokestatic 116, 3) := by decide +kernel
theorem dX4_fitting_67 : decode cX4_fitting 67 = .ok (.lreturn, 1) := by decide +kernel
theorem dX4_slideRoom_0 : decode cX4_slideRoom 0 = .ok (.aload_n 0, 1) := by decide +kernel
theorem dX4_slideRoom_1 : decode cX4_slideRoom 1 = .ok (.aload_n 0, 1) := by decide +kernel
theorem dX4_slideRoom_2 : decode cX4_slideRoom 2 = .ok (.getfield 47, 3) := by decide +kernel
theorem dX4_slideRoom_5 : decode cX4_slideRoom 5 = .ok (.iload_n 1, 1) := by decide +kernel
theorem dX4_slideRoom_6 : decode cX4_slideRoom 6 = .ok (.iaload, 1) := by decide +kernel
theorem dX4_slideRoom_7 : decode cX4_slideRoom 7 = .ok (.aload_n 0, 1) := by decide +kernel
theorem dX4_slideRoom_8 : decode cX4_slideRoom 8 = .ok (.getfield 53, 3) := by decide +kernel
theorem dX4_slideRoom_11 : decode cX4_slideRoom 11 = .ok (.iload_n 1, 1) := by decide +kernel
theorem dX4_slideRoom_12 : decode cX4_slideRoom 12 = .ok (.iaload, 1) := by decide +kernel
theorem dX4_slideRoom_13 : decode cX4_slideRoom 13 = .ok (.iload_n 1, 1) := by decide +kernel
theorem dX4_slideRoom_14 : decode cX4_slideRoom 14 = .ok (.invokevirtual 120, 3) := by decide +kernel
theorem dX4_slideRoom_17 : decode cX4_slideRoom 17 = .ok (.lstore_n 2, 1) := by decide +kernel
theorem dX4_slideRoom_18 : decode cX4_slideRoom 18 = .ok (.aload_n 0, 1) := by decide +kernel
theorem dX4_slideRoom_19 : decode cX4_slideRoom 19 = .ok (.getfield 50, 3) := by decide +kernel
theorem dX4_slideRoom_22 : decode cX4_slideRoom 22 = .ok (.iload_n 1, 1) := by decide +kernel
theorem dX4_slideRoom_23 : decode cX4_slideRoom 23 = .ok (.iaload, 1) := by decide +kernel
theorem dX4_slideRoom_24 : decode cX4_slideRoom 24 = .ok (.istore 4, 2) := by decide +kernel
theorem dX4_slideRoom_26 : decode cX4_slideRoom 26 = .ok (.iload 4, 2) := by decide +kernel
theorem dX4_slideRoom_28 : decode cX4_slideRoom 28 = .ok (.ifCond .le 22, 3) := by decide +kernel
theorem dX4_slideRoom_31 : decode cX4_slideRoom 31 = .ok (.lload_n 2, 1) := by decide +kernel
theorem dX4_slideRoom_32 : decode cX4_slideRoom 32 = .ok (.iload 4, 2) := by decide +kernel
theorem dX4_slideRoom_34 : decode cX4_slideRoom 34 = .ok (.iconst 1, 1) := by decide +kernel
theorem dX4_slideRoom_35 : decode cX4_slideRoom 35 = .ok (.isub, 1) := by decide +kernel
theorem dX4_slideRoom_36 : decode cX4_slideRoom 36 = .ok (.lushr, 1) := by decide +kernel
theorem dX4_slideRoom_37 : decode cX4_slideRoom 37 = .ok (.lconst 1, 1) := by decide +kernel
theorem dX4_slideRoom_38 : decode cX4_slideRoom 38 = .ok (.land, 1) := by decide +kernel
theorem dX4_slideRoom_39 : decode cX4_slideRoom 39 = .ok (.lconst 0, 1) := by decide +kernel
theorem dX4_slideRoom_40 : decode cX4_slideRoom 40 = .ok (.lcmp, 1) := by decide +kernel
theorem dX4_slideRoom_41 : decode cX4_slideRoom 41 = .ok (.ifCond .eq 9, 3) := by decide +kernel
theorem dX4_slideRoom_44 : decode cX4_slideRoom 44 = .ok (.iinc 4 (-1), 3) := by decide +kernel
theorem dX4_slideRoom_47 : decode cX4_slideRoom 47 = .ok (.goto (-21), 3) := by decide +kernel
theorem dX4_slideRoom_50 : decode cX4_slideRoom 50 = .ok (.aload_n 0, 1) := by decide +kernel
theorem dX4_slideRoom_51 : decode cX4_slideRoom 51 = .ok (.getfield 50, 3) := by decide +kernel
theorem dX4_slideRoom_54 : decode cX4_slideRoom 54 = .ok (.iload_n 1, 1) := by decide +kernel
theorem dX4_slideRoom_55 : decode cX4_slideRoom 55 = .ok (.iaload, 1) := by decide +kernel
theorem dX4_slideRoom_56 : decode cX4_slideRoom 56 = .ok (.iload 4, 2) := by decide +kernel
theorem dX4_slideRoom_58 : decode cX4_slideRoom 58 = .ok (.isub, 1) := by decide +kernel
theorem dX4_slideRoom_59 : decode cX4_slideRoom 59 = .ok (.ireturn, 1) := by decide +kernel
theorem dX4_landings_0 : decode cX4_landings 0 = .ok (.aload_n 0, 1) := by decide +kernel
theorem dX4_landings_1 : decode cX4_landings 1 = .ok (.getfield 53, 3) := by decide +kernel
theorem dX4_landings_4 : decode cX4_landings 4 = .ok (.iload_n 1, 1) := by decide +kernel
theorem dX4_landings_5 : decode cX4_landings 5 = .ok (.iaload, 1) := by decide +kernel
theorem dX4_landings_6 : decode cX4_landings 6 = .ok (.istore_n 2, 1) := by decide +kernel
theorem dX4_landings_7 : decode cX4_landings 7 = .ok (.iconst 0, 1) := by decide +kernel
theorem dX4_landings_8 : decode cX4_landings 8 = .ok (.aload_n 0, 1) := by decide +kernel
theorem dX4_landings_9 : decode cX4_landings 9 = .ok (.getfield 50, 3) := by decide +kernel
theorem dX4_landings_12 : decode cX4_landings 12 = .ok (.iload_n 1, 1) := by decide +kernel
theorem dX4_landings_13 : decode cX4_landings 13 = .ok (.iaload, 1) := by decide +kernel
theorem dX4_landings_14 : decode cX4_landings 14 = .ok (.iload_n 2, 1) := by decide +kernel
theorem dX4_landings_15 : decode cX4_landings 15 = .ok (.isub, 1) := by decide +kernel
theorem dX4_landings_16 : decode cX4_landings 16 = .ok (.iconst 1, 1) := by decide +kernel
theorem dX4_landings_17 : decode cX4_landings 17 = .ok (.iadd, 1) := by decide +kernel
theorem dX4_landings_18 : decode cX4_landings 18 = .ok (.invokestatic 124, 3) := by decide +kernel
theorem dX4_landings_21 : decode cX4_landings 21 = .ok (.aload_n 0, 1) := by decide +kernel
theorem dX4_landings_22 : decode cX4_landings 22 = .ok (.getfield 50, 3) := by decide +kernel
theorem dX4_landings_25 : decode cX4_landings 25 = .ok (.iload_n 1, 1) := by decide +kernel
theorem dX4_landings_26 : decode cX4_landings 26 = .ok (.iaload, 1) := by decide +kernel
theorem dX4_landings_27 : decode cX4_landings 27 = .ok (.iload_n 2, 1) := by decide +kernel
theorem dX4_landings_28 : decode cX4_landings 28 = .ok (.iadd, 1) := by decide +kernel
theorem dX4_landings_29 : decode cX4_landings 29 = .ok (.invokestatic 88, 3) := by decide +kernel
theorem dX4_landings_32 : decode cX4_landings 32 = .ok (.lstore_n 3, 1) := by decide +kernel
theorem dX4_landings_33 : decode cX4_landings 33 = .ok (.aload_n 0, 1) := by decide +kernel
theorem dX4_landings_34 : decode cX4_landings 34 = .ok (.aload_n 0, 1) := by decide +kernel
theorem dX4_landings_35 : decode cX4_landings 35 = .ok (.getfield 47, 3) := by decide +kernel
theorem dX4_landings_38 : decode cX4_landings 38 = .ok (.iload_n 1, 1) := by decide +kernel
theorem dX4_landings_39 : decode cX4_landings 39 = .ok (.iaload, 1) := by decide +kernel
theorem dX4_landings_40 : decode cX4_landings 40 = .ok (.iload_n 2, 1) := by decide +kernel
theorem dX4_landings_41 : decode cX4_landings 41 = .ok (.iload_n 1, 1) := by decide +kernel
theorem dX4_landings_42 : decode cX4_landings 42 = .ok (.invokevirtual 120, 3) := by decide +kernel
theorem dX4_landings_45 : decode cX4_landings 45 = .ok (.lload_n 3, 1) := by decide +kernel
theorem dX4_landings_46 : decode cX4_landings 46 = .ok (.ldc2_w 96, 3) := by decide +kernel
theorem dX4_landings_49 : decode cX4_landings 49 = .ok (.lxor, 1) := by decide +kernel
theorem dX4_landings_50 : decode cX4_landings 50 = .ok (.land, 1) := by decide +kernel
theorem dX4_landings_51 : decode cX4_landings 51 = .ok (.lreturn, 1) := by decide +kernel
theorem dX4_clashes_0 : decode cX4_clashes 0 = .ok (.aload_n 0, 1) := by decide +kernel
theorem dX4_clashes_1 : decode cX4_clashes 1 = .ok (.getfield 41, 3) := by decide +kernel
theorem dX4_clashes_4 : decode cX4_clashes 4 = .ok (.iload_n 1, 1) := by decide +kernel
theorem dX4_clashes_5 : decode cX4_clashes 5 = .ok (.iaload, 1) := by decide +kernel
theorem dX4_clashes_6 : decode cX4_clashes 6 = .ok (.ifCond .ne 64, 3) := by decide +kernel
theorem dX4_clashes_9 : decode cX4_clashes 9 = .ok (.aload_n 0, 1) := by decide +kernel
theorem dX4_clashes_10 : decode cX4_clashes 10 = .ok (.getfield 47, 3) := by decide +kernel
theorem dX4_clashes_13 : decode cX4_clashes 13 = .ok (.iload_n 1, 1) := by decide +kernel
theorem dX4_clashes_14 : decode cX4_clashes 14 = .ok (.iaload, 1) := by decide +kernel
theorem dX4_clashes_15 : decode cX4_clashes 15 = .ok (.iload_n 2, 1) := by decide +kernel
theorem dX4_clashes_16 : decode cX4_clashes 16 = .ok (.iand, 1) := by decide +kernel
theorem dX4_clashes_17 : decode cX4_clashes 17 = .ok (.ifCond .eq 53, 3) := by decide +kernel
theorem dX4_clashes_20 : decode cX4_clashes 20 = .ok (.iload_n 3, 1) := by decide +kernel
theorem dX4_clashes_21 : decode cX4_clashes 21 = .ok (.aload_n 0, 1) := by decide +kernel
theorem dX4_clashes_22 : decode cX4_clashes 22 = .ok (.getfield 50, 3) := by decide +kernel
theorem dX4_clashes_25 : decode cX4_clashes 25 = .ok (.iload_n 1, 1) := by decide +kernel
theorem dX4_clashes_26 : decode cX4_clashes 26 = .ok (.iaload, 1) := by decide +kernel
theorem dX4_clashes_27 : decode cX4_clashes 27 = .ok (.aload_n 0, 1) := by decide +kernel
theorem dX4_clashes_28 : decode cX4_clashes 28 = .ok (.getfield 53, 3) := by decide +kernel
theorem dX4_clashes_31 : decode cX4_clashes 31 = .ok (.iload_n 1, 1) := by decide +kernel
theorem dX4_clashes_32 : decode cX4_clashes 32 = .ok (.iaload, 1) := by decide +kernel
theorem dX4_clashes_33 : decode cX4_clashes 33 = .ok (.iadd, 1) := by decide +kernel
theorem dX4_clashes_34 : decode cX4_clashes 34 = .ok (.aload_n 0, 1) := by decide +kernel
theorem dX4_clashes_35 : decode cX4_clashes 35 = .ok (.getfield 12, 3) := by decide +kernel
theorem dX4_clashes_38 : decode cX4_clashes 38 = .ok (.getfield 109, 3) := by decide +kernel
theorem dX4_clashes_41 : decode cX4_clashes 41 = .ok (.iadd, 1) := by decide +kernel
theorem dX4_clashes_42 : decode cX4_clashes 42 = .ok (.if_icmp .ge 28, 3) := by decide +kernel
theorem dX4_clashes_45 : decode cX4_clashes 45 = .ok (.aload_n 0, 1) := by decide +kernel
theorem dX4_clashes_46 : decode cX4_clashes 46 = .ok (.getfield 50, 3) := by decide +kernel
theorem dX4_clashes_49 : decode cX4_clashes 49 = .ok (.iload_n 1, 1) := by decide +kernel
theorem dX4_clashes_50 : decode cX4_clashes 50 = .ok (.iaload, 1) := by decide +kernel
theorem dX4_clashes_51 : decode cX4_clashes 51 = .ok (.iload_n 3, 1) := by decide +kernel
theorem dX4_clashes_52 : decode cX4_clashes 52 = .ok (.iload 4, 2) := by decide +kernel
theorem dX4_clashes_54 : decode cX4_clashes 54 = .ok (.iadd, 1) := by decide +kernel
theorem dX4_clashes_55 : decode cX4_clashes 55 = .ok (.aload_n 0, 1) := by decide +kernel
theorem dX4_clashes_56 : decode cX4_clashes 56 = .ok (.getfield 12, 3) := by decide +kernel
theorem dX4_clashes_59 : decode cX4_clashes 59 = .ok (.getfield 109, 3) := by decide +kernel
theorem dX4_clashes_62 : decode cX4_clashes 62 = .ok (.iadd, 1) := by decide +kernel
theorem dX4_clashes_63 : decode cX4_clashes 63 = .ok (.if_icmp .ge 7, 3) := by decide +kernel
theorem dX4_clashes_66 : decode cX4_clashes 66 = .ok (.iconst 1, 1) := by decide +kernel
theorem dX4_clashes_67 : decode cX4_clashes 67 = .ok (.goto 4, 3) := by decide +kernel
theorem dX4_clashes_70 : decode cX4_clashes 70 = .ok (.iconst 0, 1) := by decide +kernel
theorem dX4_clashes_71 : decode cX4_clashes 71 = .ok (.ireturn, 1) := by decide +kernel
theorem dX4_inTheWay_0 : decode cX4_inTheWay 0 = .ok (.iconst 0, 1) := by decide +kernel
theorem dX4_inTheWay_1 : decode cX4_inTheWay 1 = .ok (.istore 4, 2) := by decide +kernel
theorem dX4_inTheWay_3 : decode cX4_inTheWay 3 = .ok (.iload 4, 2) := by decide +kernel
theorem dX4_inTheWay_5 : decode cX4_inTheWay 5 = .ok (.aload_n 0, 1) := by decide +kernel
theorem dX4_inTheWay_6 : decode cX4_inTheWay 6 = .ok (.getfield 28, 3) := by decide +kernel
theorem dX4_inTheWay_9 : decode cX4_inTheWay 9 = .ok (.if_icmp .ge 24, 3) := by decide +kernel
theorem dX4_inTheWay_12 : decode cX4_inTheWay 12 = .ok (.aload_n 0, 1) := by decide +kernel
theorem dX4_inTheWay_13 : decode cX4_inTheWay 13 = .ok (.iload 4, 2) := by decide +kernel
theorem dX4_inTheWay_15 : decode cX4_inTheWay 15 = .ok (.iload_n 1, 1) := by decide +kernel
theorem dX4_inTheWay_16 : decode cX4_inTheWay 16 = .ok (.iload_n 2, 1) := by decide +kernel
theorem dX4_inTheWay_17 : decode cX4_inTheWay 17 = .ok (.iload_n 3, 1) := by decide +kernel
theorem dX4_inTheWay_18 : decode cX4_inTheWay 18 = .ok (.invokevirtual 130, 3) := by decide +kernel
theorem dX4_inTheWay_21 : decode cX4_inTheWay 21 = .ok (.ifCond .eq 6, 3) := by decide +kernel
theorem dX4_inTheWay_24 : decode cX4_inTheWay 24 = .ok (.iload 4, 2) := by decide +kernel
theorem dX4_inTheWay_26 : decode cX4_inTheWay 26 = .ok (.ireturn, 1) := by decide +kernel
theorem dX4_inTheWay_27 : decode cX4_inTheWay 27 = .ok (.iinc 4 1, 3) := by decide +kernel
theorem dX4_inTheWay_30 : decode cX4_inTheWay 30 = .ok (.goto (-27), 3) := by decide +kernel
theorem dX4_inTheWay_33 : decode cX4_inTheWay 33 = .ok (.iconst (-1), 1) := by decide +kernel
theorem dX4_inTheWay_34 : decode cX4_inTheWay 34 = .ok (.ireturn, 1) := by decide +kernel
theorem dX4_witnesses_0 : decode cX4_witnesses 0 = .ok (.lconst 0, 1) := by decide +kernel
theorem dX4_witnesses_1 : decode cX4_witnesses 1 = .ok (.lstore_n 3, 1) := by decide +kernel
theorem dX4_witnesses_2 : decode cX4_witnesses 2 = .ok (.iconst 0, 1) := by decide +kernel
theorem dX4_witnesses_3 : decode cX4_witnesses 3 = .ok (.istore 5, 2) := by decide +kernel
theorem dX4_witnesses_5 : decode cX4_witnesses 5 = .ok (.iload 5, 2) := by decide +kernel
theorem dX4_witnesses_7 : decode cX4_witnesses 7 = .ok (.iload_n 2, 1) := by decide +kernel
theorem dX4_witnesses_8 : decode cX4_witnesses 8 = .ok (.iadd, 1) := by decide +kernel
theorem dX4_witnesses_9 : decode cX4_witnesses 9 = .ok (.aload_n 0, 1) := by decide +kernel
theorem dX4_witnesses_10 : decode cX4_witnesses 10 = .ok (.getfield 12, 3) := by decide +kernel
theorem dX4_witnesses_13 : decode cX4_witnesses 13 = .ok (.getfield 134, 3) := by decide +kernel
theorem dX4_witnesses_16 : decode cX4_witnesses 16 = .ok (.if_icmp .gt 31, 3) := by decide +kernel
theorem dX4_witnesses_19 : decode cX4_witnesses 19 = .ok (.aload_n 0, 1) := by decide +kernel
theorem dX4_witnesses_20 : decode cX4_witnesses 20 = .ok (.iload_n 1, 1) := by decide +kernel
theorem dX4_witnesses_21 : decode cX4_witnesses 21 = .ok (.iload 5, 2) := by decide +kernel
theorem dX4_witnesses_23 : decode cX4_witnesses 23 = .ok (.iload_n 2, 1) := by decide +kernel
theorem dX4_witnesses_24 : decode cX4_witnesses 24 = .ok (.invokevirtual 137, 3) := by decide +kernel
theorem dX4_witnesses_27 : decode cX4_witnesses 27 = .ok (.istore 6, 2) := by decide +kernel
theorem dX4_witnesses_29 : decode cX4_witnesses 29 = .ok (.iload 6, 2) := by decide +kernel
theorem dX4_witnesses_31 : decode cX4_witnesses 31 = .ok (.ifCond .lt 10, 3) := by decide +kernel
theorem dX4_witnesses_34 : decode cX4_witnesses 34 = .ok (.lload_n 3, 1) := by decide +kernel
theorem dX4_witnesses_35 : decode cX4_witnesses 35 = .ok (.lconst 1, 1) := by decide +kernel
theorem dX4_witnesses_36 : decode cX4_witnesses 36 = .ok (.iload 6, 2) := by decide +kernel
theorem dX4_witnesses_38 : decode cX4_witnesses 38 = .ok (.lshl, 1) := by decide +kernel
theorem dX4_witnesses_39 : decode cX4_witnesses 39 = .ok (.lor, 1) := by decide +kernel
theorem dX4_witnesses_40 : decode cX4_witnesses 40 = .ok (.lstore_n 3, 1) := by decide +kernel
theorem dX4_witnesses_41 : decode cX4_witnesses 41 = .ok (.iinc 5 1, 3) := by decide +kernel
theorem dX4_witnesses_44 : decode cX4_witnesses 44 = .ok (.goto (-39), 3) := by decide +kernel
theorem dX4_witnesses_47 : decode cX4_witnesses 47 = .ok (.lload_n 3, 1) := by decide +kernel
theorem dX4_witnesses_48 : decode cX4_witnesses 48 = .ok (.lreturn, 1) := by decide +kernel
theorem dX4_top_0 : decode cX4_top 0 = .ok (.lconst 0, 1) := by decide +kernel
theorem dX4_top_1 : decode cX4_top 1 = .ok (.lstore_n 1, 1) := by decide +kernel
theorem dX4_top_2 : decode cX4_top 2 = .ok (.iconst 0, 1) := by decide +kernel
theorem dX4_top_3 : decode cX4_top 3 = .ok (.istore_n 3, 1) := by decide +kernel
theorem dX4_top_4 : decode cX4_top 4 = .ok (.iload_n 3, 1) := by decide +kernel
theorem dX4_top_5 : decode cX4_top 5 = .ok (.aload_n 0, 1) := by decide +kernel
theorem dX4_top_6 : decode cX4_top 6 = .ok (.getfield 12, 3) := by decide +kernel
theorem dX4_top_9 : decode cX4_top 9 = .ok (.getfield 70, 3) := by decide +kernel
theorem dX4_top_12 : decode cX4_top 12 = .ok (.if_icmp .ge 18, 3) := by decide +kernel
theorem dX4_top_15 : decode cX4_top 15 = .ok (.lload_n 1, 1) := by decide +kernel
theorem dX4_top_16 : decode cX4_top 16 = .ok (.aload_n 0, 1) := by decide +kernel
theorem dX4_top_17 : decode cX4_top 17 = .ok (.getfield 60, 3) := by decide +kernel
theorem dX4_top_20 : decode cX4_top 20 = .ok (.iload_n 3, 1) := by decide +kernel
theorem dX4_top_21 : decode cX4_top 21 = .ok (.laload, 1) := by decide +kernel
theorem dX4_top_22 : decode cX4_top 22 = .ok (.lor, 1) := by decide +kernel
theorem dX4_top_23 : decode cX4_top 23 = .ok (.lstore_n 1, 1) := by decide +kernel
theorem dX4_top_24 : decode cX4_top 24 = .ok (.iinc 3 1, 3) := by decide +kernel
theorem dX4_top_27 : decode cX4_top 27 = .ok (.goto (-23), 3) := by decide +kernel
theorem dX4_top_30 : decode cX4_top 30 = .ok (.lload_n 1, 1) := by decide +kernel
theorem dX4_top_31 : decode cX4_top 31 = .ok (.invokestatic 141, 3) := by decide +kernel
theorem dX4_top_34 : decode cX4_top 34 = .ok (.ireturn, 1) := by decide +kernel
theorem dX4_slotsUsed_0 : decode cX4_slotsUsed 0 = .ok (.iconst 0, 1) := by decide +kernel
theorem dX4_slotsUsed_1 : decode cX4_slotsUsed 1 = .ok (.istore_n 1, 1) := by decide +kernel
theorem dX4_slotsUsed_2 : decode cX4_slotsUsed 2 = .ok (.iconst 0, 1) := by decide +kernel
theorem dX4_slotsUsed_3 : decode cX4_slotsUsed 3 = .ok (.istore_n 2, 1) := by decide +kernel
theorem dX4_slotsUsed_4 : decode cX4_slotsUsed 4 = .ok (.iload_n 2, 1) := by decide +kernel
theorem dX4_slotsUsed_5 : decode cX4_slotsUsed 5 = .ok (.aload_n 0, 1) := by decide +kernel
theorem dX4_slotsUsed_6 : decode cX4_slotsUsed 6 = .ok (.getfield 12, 3) := by decide +kernel
theorem dX4_slotsUsed_9 : decode cX4_slotsUsed 9 = .ok (.getfield 70, 3) := by decide +kernel
theorem dX4_slotsUsed_12 : decode cX4_slotsUsed 12 = .ok (.if_icmp .ge 21, 3) := by decide +kernel
theorem dX4_slotsUsed_15 : decode cX4_slotsUsed 15 = .ok (.iload_n 1, 1) := by decide +kernel
theorem dX4_slotsUsed_16 : decode cX4_slotsUsed 16 = .ok (.aload_n 0, 1) := by decide +kernel
theorem dX4_slotsUsed_17 : decode cX4_slotsUsed 17 = .ok (.getfield 60, 3) := by decide +kernel
theorem dX4_slotsUsed_20 : decode cX4_slotsUsed 20 = .ok (.iload_n 2, 1) := by decide +kernel
theorem dX4_slotsUsed_21 : decode cX4_slotsUsed 21 = .ok (.laload, 1) := by decide +kernel
theorem dX4_slotsUsed_22 : decode cX4_slotsUsed 22 = .ok (.invokestatic 145, 3) := by decide +kernel
theorem dX4_slotsUsed_25 : decode cX4_slotsUsed 25 = .ok (.iadd, 1) := by decide +kernel
theorem dX4_slotsUsed_26 : decode cX4_slotsUsed 26 = .ok (.istore_n 1, 1) := by decide +kernel
theorem dX4_slotsUsed_27 : decode cX4_slotsUsed 27 = .ok (.iinc 2 1, 3) := by decide +kernel
theorem dX4_slotsUsed_30 : decode cX4_slotsUsed 30 = .ok (.goto (-26), 3) := by decide +kernel
theorem dX4_slotsUsed_33 : decode cX4_slotsUsed 33 = .ok (.iload_n 1, 1) := by decide +kernel
theorem dX4_slotsUsed_34 : decode cX4_slotsUsed 34 = .ok (.ireturn, 1) := by decide +kernel
theorem dX4_howMany_0 : decode cX4_howMany 0 = .ok (.iconst 0, 1) := by decide +kernel
theorem dX4_howMany_1 : decode cX4_howMany 1 = .ok (.istore_n 2, 1) := by decide +kernel
theorem dX4_howMany_2 : decode cX4_howMany 2 = .ok (.iconst 0, 1) := by decide +kernel
theorem dX4_howMany_3 : decode cX4_howMany 3 = .ok (.istore_n 3, 1) := by decide +kernel
theorem dX4_howMany_4 : decode cX4_howMany 4 = .ok (.iload_n 3, 1) := by decide +kernel
theorem dX4_howMany_5 : decode cX4_howMany 5 = .ok (.aload_n 0, 1) := by decide +kernel
theorem dX4_howMany_6 : decode cX4_howMany 6 = .ok (.getfield 28, 3) := by decide +kernel
theorem dX4_howMany_9 : decode cX4_howMany 9 = .ok (.if_icmp .ge 22, 3) := by decide +kernel
theorem dX4_howMany_12 : decode cX4_howMany 12 = .ok (.aload_n 0, 1) := by decide +kernel
theorem dX4_howMany_13 : decode cX4_howMany 13 = .ok (.getfield 41, 3) := by decide +kernel
theorem dX4_howMany_16 : decode cX4_howMany 16 = .ok (.iload_n 3, 1) := by decide +kernel
theorem dX4_howMany_17 : decode cX4_howMany 17 = .ok (.iaload, 1) := by decide +kernel
theorem dX4_howMany_18 : decode cX4_howMany 18 = .ok (.iload_n 1, 1) := by decide +kernel
theorem dX4_howMany_19 : decode cX4_howMany 19 = .ok (.if_icmp .ne 6, 3) := by decide +kernel
theorem dX4_howMany_22 : decode cX4_howMany 22 = .ok (.iinc 2 1, 3) := by decide +kernel
theorem dX4_howMany_25 : decode cX4_howMany 25 = .ok (.iinc 3 1, 3) := by decide +kernel
theorem dX4_howMany_28 : decode cX4_howMany 28 = .ok (.goto (-24), 3) := by decide +kernel
theorem dX4_howMany_31 : decode cX4_howMany 31 = .ok (.iload_n 2, 1) := by decide +kernel
theorem dX4_howMany_32 : decode cX4_howMany 32 = .ok (.ireturn, 1) := by decide +kernel
theorem dX4_litOn_0 : decode cX4_litOn 0 = .ok (.iconst 0, 1) := by decide +kernel
theorem dX4_litOn_1 : decode cX4_litOn 1 = .ok (.istore_n 2, 1) := by decide +kernel
theorem dX4_litOn_2 : decode cX4_litOn 2 = .ok (.iconst 0, 1) := by decide +kernel
theorem dX4_litOn_3 : decode cX4_litOn 3 = .ok (.istore_n 3, 1) := by decide +kernel
theorem dX4_litOn_4 : decode cX4_litOn 4 = .ok (.iload_n 3, 1) := by decide +kernel
theorem dX4_litOn_5 : decode cX4_litOn 5 = .ok (.aload_n 0, 1) := by decide +kernel
theorem dX4_litOn_6 : decode cX4_litOn 6 = .ok (.getfield 28, 3) := by decide +kernel
theorem dX4_litOn_9 : decode cX4_litOn 9 = .ok (.if_icmp .ge 34, 3) := by decide +kernel
theorem dX4_litOn_12 : decode cX4_litOn 12 = .ok (.aload_n 0, 1) := by decide +kernel
theorem dX4_litOn_13 : decode cX4_litOn 13 = .ok (.getfield 41, 3) := by decide +kernel
theorem dX4_litOn_16 : decode cX4_litOn 16 = .ok (.iload_n 3, 1) := by decide +kernel
theorem dX4_litOn_17 : decode cX4_litOn 17 = .ok (.iaload, 1) := by decide +kernel
theorem dX4_litOn_18 : decode cX4_litOn 18 = .ok (.ifCond .ne 19, 3) := by decide +kernel
theorem dX4_litOn_21 : decode cX4_litOn 21 = .ok (.aload_n 0, 1) := by decide +kernel
theorem dX4_litOn_22 : decode cX4_litOn 22 = .ok (.getfield 47, 3) := by decide +kernel
theorem dX4_litOn_25 : decode cX4_litOn 25 = .ok (.iload_n 3, 1) := by decide +kernel
theorem dX4_litOn_26 : decode cX4_litOn 26 = .ok (.iaload, 1) := by decide +kernel
theorem dX4_litOn_27 : decode cX4_litOn 27 = .ok (.iload_n 1, 1) := by decide +kernel
theorem dX4_litOn_28 : decode cX4_litOn 28 = .ok (.iushr, 1) := by decide +kernel
theorem dX4_litOn_29 : decode cX4_litOn 29 = .ok (.iconst 1, 1) := by decide +kernel
theorem dX4_litOn_30 : decode cX4_litOn 30 = .ok (.iand, 1) := by decide +kernel
theorem dX4_litOn_31 : decode cX4_litOn 31 = .ok (.ifCond .eq 6, 3) := by decide +kernel
theorem dX4_litOn_34 : decode cX4_litOn 34 = .ok (.iinc 2 1, 3) := by decide +kernel
theorem dX4_litOn_37 : decode cX4_litOn 37 = .ok (.iinc 3 1, 3) := by decide +kernel
theorem dX4_litOn_40 : decode cX4_litOn 40 = .ok (.goto (-36), 3) := by decide +kernel
theorem dX4_litOn_43 : decode cX4_litOn 43 = .ok (.iload_n 2, 1) := by decide +kernel
theorem dX4_litOn_44 : decode cX4_litOn 44 = .ok (.ireturn, 1) := by decide +kernel
theorem dX4_orderByFirst_0 : decode cX4_orderByFirst 0 = .ok (.iconst 0, 1) := by decide +kernel
theorem dX4_orderByFirst_1 : decode cX4_orderByFirst 1 = .ok (.istore_n 1, 1) := by decide +kernel
theorem dX4_orderByFirst_2 : decode cX4_orderByFirst 2 = .ok (.iconst 0, 1) := by decide +kernel
theorem dX4_orderByFirst_3 : decode cX4_orderByFirst 3 = .ok (.istore_n 2, 1) := by decide +kernel
theorem dX4_orderByFirst_4 : decode cX4_orderByFirst 4 = .ok (.iload_n 2, 1) := by decide +kernel
theorem dX4_orderByFirst_5 : decode cX4_orderByFirst 5 = .ok (.aload_n 0, 1) := by decide +kernel
theorem dX4_orderByFirst_6 : decode cX4_orderByFirst 6 = .ok (.getfield 28, 3) := by decide +kernel
theorem dX4_orderByFirst_9 : decode cX4_orderByFirst 9 = .ok (.if_icmp .ge 76, 3) := by decide +kernel
theorem dX4_orderByFirst_12 : decode cX4_orderByFirst 12 = .ok (.aload_n 0, 1) := by decide +kernel
theorem dX4_orderByFirst_13 : decode cX4_orderByFirst 13 = .ok (.getfield 41, 3) := by decide +kernel
theorem dX4_orderByFirst_16 : decode cX4_orderByFirst 16 = .ok (.iload_n 2, 1) := by decide +kernel
theorem dX4_orderByFirst_17 : decode cX4_orderByFirst 17 = .ok (.iaload, 1) := by decide +kernel
theorem dX4_orderByFirst_18 : decode cX4_orderByFirst 18 = .ok (.ifCond .ne 61, 3) := by decide +kernel
theorem dX4_orderByFirst_21 : decode cX4_orderByFirst 21 = .ok (.iload_n 1, 1) := by decide +kernel
theorem dX4_orderByFirst_22 : decode cX4_orderByFirst 22 = .ok (.istore_n 3, 1) := by decide +kernel
theorem dX4_orderByFirst_23 : decode cX4_orderByFirst 23 = .ok (.iload_n 3, 1) := by decide +kernel
theorem dX4_orderByFirst_24 : decode cX4_orderByFirst 24 = .ok (.ifCond .le 45, 3) := by decide +kernel
theorem dX4_orderByFirst_27 : decode cX4_orderByFirst 27 = .ok (.aload_n 0, 1) := by decide +kernel
theorem dX4_orderByFirst_28 : decode cX4_orderByFirst 28 = .ok (.getfield 50, 3) := by decide +kernel
theorem dX4_orderByFirst_31 : decode cX4_orderByFirst 31 = .ok (.aload_n 0, 1) := by decide +kernel
theorem dX4_orderByFirst_32 : decode cX4_orderByFirst 32 = .ok (.getfield 63, 3) := by decide +kernel
theorem dX4_orderByFirst_35 : decode cX4_orderByFirst 35 = .ok (.iload_n 3, 1) := by decide +kernel
theorem dX4_orderByFirst_36 : decode cX4_orderByFirst 36 = .ok (.iconst 1, 1) := by decide +kernel
theorem dX4_orderByFirst_37 : decode cX4_orderByFirst 37 = .ok (.isub, 1) := by decide +kernel
theorem dX4_orderByFirst_38 : decode cX4_orderByFirst 38 = .ok (.iaload, 1) := by decide +kernel
theorem dX4_orderByFirst_39 : decode cX4_orderByFirst 39 = .ok (.iaload, 1) := by decide +kernel
theorem dX4_orderByFirst_40 : decode cX4_orderByFirst 40 = .ok (.aload_n 0, 1) := by decide +kernel
theorem dX4_orderByFirst_41 : decode cX4_orderByFirst 41 = .ok (.getfield 50, 3) := by decide +kernel
theorem dX4_orderByFirst_44 : decode cX4_orderByFirst 44 = .ok (.iload_n 2, 1) := by decide +kernel
theorem dX4_orderByFirst_45 : decode cX4_orderByFirst 45 = .ok (.iaload, 1) := by decide +kernel
theorem dX4_orderByFirst_46 : decode cX4_orderByFirst 46 = .ok (.if_icmp .le 23, 3) := by decide +kernel
theorem dX4_orderByFirst_49 : decode cX4_orderByFirst 49 = .ok (.aload_n 0, 1) := by decide +kernel
theorem dX4_orderByFirst_50 : decode cX4_orderByFirst 50 = .ok (.getfield 63, 3) := by decide +kernel
theorem dX4_orderByFirst_53 : decode cX4_orderByFirst 53 = .ok (.iload_n 3, 1) := by decide +kernel
theorem dX4_orderByFirst_54 : decode cX4_orderByFirst 54 = .ok (.aload_n 0, 1) := by decide +kernel
theorem dX4_orderByFirst_55 : decode cX4_orderByFirst 55 = .ok (.getfield 63, 3) := by decide +kernel
theorem dX4_orderByFirst_58 : decode cX4_orderByFirst 58 = .ok (.iload_n 3, 1) := by decide +kernel
theorem dX4_orderByFirst_59 : decode cX4_orderByFirst 59 = .ok (.iconst 1, 1) := by decide +kernel
theorem dX4_orderByFirst_60 : decode cX4_orderByFirst 60 = .ok (.isub, 1) := by decide +kernel
theorem dX4_orderByFirst_61 : decode cX4_orderByFirst 61 = .ok (.iaload, 1) := by decide +kernel
theorem dX4_orderByFirst_62 : decode cX4_orderByFirst 62 = .ok (.iastore, 1) := by decide +kernel
theorem dX4_orderByFirst_63 : decode cX4_orderByFirst 63 = .ok (.iinc 3 (-1), 3) := by decide +kernel
theorem dX4_orderByFirst_66 : decode cX4_orderByFirst 66 = .ok (.goto (-43), 3) := by decide +kernel
theorem dX4_orderByFirst_69 : decode cX4_orderByFirst 69 = .ok (.aload_n 0, 1) := by decide +kernel
theorem dX4_orderByFirst_70 : decode cX4_orderByFirst 70 = .ok (.getfield 63, 3) := by decide +kernel
theorem dX4_orderByFirst_73 : decode cX4_orderByFirst 73 = .ok (.iload_n 3, 1) := by decide +kernel
theorem dX4_orderByFirst_74 : decode cX4_orderByFirst 74 = .ok (.iload_n 2, 1) := by decide +kernel
theorem dX4_orderByFirst_75 : decode cX4_orderByFirst 75 = .ok (.iastore, 1) := by decide +kernel
theorem dX4_orderByFirst_76 : decode cX4_orderByFirst 76 = .ok (.iinc 1 1, 3) := by decide +kernel
theorem dX4_orderByFirst_79 : decode cX4_orderByFirst 79 = .ok (.iinc 2 1, 3) := by decide +kernel
theorem dX4_orderByFirst_82 : decode cX4_orderByFirst 82 = .ok (.goto (-78), 3) := by decide +kernel
theorem dX4_orderByFirst_85 : decode cX4_orderByFirst 85 = .ok (.iload_n 1, 1) := by decide +kernel
theorem dX4_orderByFirst_86 : decode cX4_orderByFirst 86 = .ok (.ireturn, 1) := by decide +kernel
theorem dX4_sever_0 : decode cX4_sever 0 = .ok (.aload_n 0, 1) := by decide +kernel
theorem dX4_sever_1 : decode cX4_sever 1 = .ok (.dup, 1) := by decide +kernel
theorem dX4_sever_2 : decode cX4_sever 2 = .ok (.getfield 18, 3) := by decide +kernel
theorem dX4_sever_5 : decode cX4_sever 5 = .ok (.iconst 1, 1) := by decide +kernel
theorem dX4_sever_6 : decode cX4_sever 6 = .ok (.iload_n 1, 1) := by decide +kernel
theorem dX4_sever_7 : decode cX4_sever 7 = .ok (.ishl, 1) := by decide +kernel
theorem dX4_sever_8 : decode cX4_sever 8 = .ok (.iconst (-1), 1) := by decide +kernel
theorem dX4_sever_9 : decode cX4_sever 9 = .ok (.ixor, 1) := by decide +kernel
theorem dX4_sever_10 : decode cX4_sever 10 = .ok (.iand, 1) := by decide +kernel
theorem dX4_sever_11 : decode cX4_sever 11 = .ok (.putfield 18, 3) := by decide +kernel
theorem dX4_sever_14 : decode cX4_sever 14 = .ok (.iconst 0, 1) := by decide +kernel
theorem dX4_sever_15 : decode cX4_sever 15 = .ok (.istore_n 2, 1) := by decide +kernel
theorem dX4_sever_16 : decode cX4_sever 16 = .ok (.iconst 0, 1) := by decide +kernel
theorem dX4_sever_17 : decode cX4_sever 17 = .ok (.istore_n 3, 1) := by decide +kernel
theorem dX4_sever_18 : decode cX4_sever 18 = .ok (.iload_n 3, 1) := by decide +kernel
theorem dX4_sever_19 : decode cX4_sever 19 = .ok (.aload_n 0, 1) := by decide +kernel
theorem dX4_sever_20 : decode cX4_sever 20 = .ok (.getfield 28, 3) := by decide +kernel
theorem dX4_sever_23 : decode cX4_sever 23 = .ok (.if_icmp .ge 40, 3) := by decide +kernel
theorem dX4_sever_26 : decode cX4_sever 26 = .ok (.aload_n 0, 1) := by decide +kernel
theorem dX4_sever_27 : decode cX4_sever 27 = .ok (.getfield 41, 3) := by decide +kernel
theorem dX4_sever_30 : decode cX4_sever 30 = .ok (.iload_n 3, 1) := by decide +kernel
theorem dX4_sever_31 : decode cX4_sever 31 = .ok (.iaload, 1) := by decide +kernel
theorem dX4_sever_32 : decode cX4_sever 32 = .ok (.ifCond .ne 25, 3) := by decide +kernel
theorem dX4_sever_35 : decode cX4_sever 35 = .ok (.aload_n 0, 1) := by decide +kernel
theorem dX4_sever_36 : decode cX4_sever 36 = .ok (.getfield 47, 3) := by decide +kernel
theorem dX4_sever_39 : decode cX4_sever 39 = .ok (.iload_n 3, 1) := by decide +kernel
theorem dX4_sever_40 : decode cX4_sever 40 = .ok (.iaload, 1) := by decide +kernel
theorem dX4_sever_41 : decode cX4_sever 41 = .ok (.iload_n 1, 1) := by decide +kernel
theorem dX4_sever_42 : decode cX4_sever 42 = .ok (.iushr, 1) := by decide +kernel
theorem dX4_sever_43 : decode cX4_sever 43 = .ok (.iconst 1, 1) := by decide +kernel
theorem dX4_sever_44 : decode cX4_sever 44 = .ok (.iand, 1) := by decide +kernel
theorem dX4_sever_45 : decode cX4_sever 45 = .ok (.ifCond .eq 12, 3) := by decide +kernel
theorem dX4_sever_48 : decode cX4_sever 48 = .ok (.aload_n 0, 1) := by decide +kernel
theorem dX4_sever_49 : decode cX4_sever 49 = .ok (.iload_n 3, 1) := by decide +kernel
theorem dX4_sever_50 : decode cX4_sever 50 = .ok (.iconst 2, 1) := by decide +kernel
theorem dX4_sever_51 : decode cX4_sever 51 = .ok (.invokevirtual 98, 3) := by decide +kernel
theorem dX4_sever_54 : decode cX4_sever 54 = .ok (.iinc 2 1, 3) := by decide +kernel
theorem dX4_sever_57 : decode cX4_sever 57 = .ok (.iinc 3 1, 3) := by decide +kernel
theorem dX4_sever_60 : decode cX4_sever 60 = .ok (.goto (-42), 3) := by decide +kernel
theorem dX4_sever_63 : decode cX4_sever 63 = .ok (.iload_n 2, 1) := by decide +kernel
theorem dX4_sever_64 : decode cX4_sever 64 = .ok (.ireturn, 1) := by decide +kernel
theorem dX4_endThoseDue_0 : decode cX4_endThoseDue 0 = .ok (.iconst 0, 1) := by decide +kernel
theorem dX4_endThoseDue_1 : decode cX4_endThoseDue 1 = .ok (.istore_n 1, 1) := by decide +kernel
theorem dX4_endThoseDue_2 : decode cX4_endThoseDue 2 = .ok (.iconst 0, 1) := by decide +kernel
theorem dX4_endThoseDue_3 : decode cX4_endThoseDue 3 = .ok (.istore_n 2, 1) := by decide +kernel
theorem dX4_endThoseDue_4 : decode cX4_endThoseDue 4 = .ok (.iload_n 2, 1) := by decide +kernel
theorem dX4_endThoseDue_5 : decode cX4_endThoseDue 5 = .ok (.aload_n 0, 1) := by decide +kernel
theorem dX4_endThoseDue_6 : decode cX4_endThoseDue 6 = .ok (.getfield 28, 3) := by decide +kernel
theorem dX4_endThoseDue_9 : decode cX4_endThoseDue 9 = .ok (.if_icmp .ge 48, 3) := by decide +kernel
theorem dX4_endThoseDue_12 : decode cX4_endThoseDue 12 = .ok (.aload_n 0, 1) := by decide +kernel
theorem dX4_endThoseDue_13 : decode cX4_endThoseDue 13 = .ok (.iload_n 2, 1) := by decide +kernel
theorem dX4_endThoseDue_14 : decode cX4_endThoseDue 14 = .ok (.invokevirtual 150, 3) := by decide +kernel
theorem dX4_endThoseDue_17 : decode cX4_endThoseDue 17 = .ok (.ifCond .eq 34, 3) := by decide +kernel
theorem dX4_endThoseDue_20 : decode cX4_endThoseDue 20 = .ok (.aload_n 0, 1) := by decide +kernel
theorem dX4_endThoseDue_21 : decode cX4_endThoseDue 21 = .ok (.getfield 44, 3) := by decide +kernel
theorem dX4_endThoseDue_24 : decode cX4_endThoseDue 24 = .ok (.iload_n 2, 1) := by decide +kernel
theorem dX4_endThoseDue_25 : decode cX4_endThoseDue 25 = .ok (.iaload, 1) := by decide +kernel
theorem dX4_endThoseDue_26 : decode cX4_endThoseDue 26 = .ok (.ifCond .lt 25, 3) := by decide +kernel
theorem dX4_endThoseDue_29 : decode cX4_endThoseDue 29 = .ok (.aload_n 0, 1) := by decide +kernel
theorem dX4_endThoseDue_30 : decode cX4_endThoseDue 30 = .ok (.getfield 44, 3) := by decide +kernel
theorem dX4_endThoseDue_33 : decode cX4_endThoseDue 33 = .ok (.iload_n 2, 1) := by decide +kernel
theorem dX4_endThoseDue_34 : decode cX4_endThoseDue 34 = .ok (.iaload, 1) := by decide +kernel
theorem dX4_endThoseDue_35 : decode cX4_endThoseDue 35 = .ok (.aload_n 0, 1) := by decide +kernel
theorem dX4_endThoseDue_36 : decode cX4_endThoseDue 36 = .ok (.getfield 22, 3) := by decide +kernel
theorem dX4_endThoseDue_39 : decode cX4_endThoseDue 39 = .ok (.if_icmp .gt 12, 3) := by decide +kernel
theorem dX4_endThoseDue_42 : decode cX4_endThoseDue 42 = .ok (.aload_n 0, 1) := by decide +kernel
theorem dX4_endThoseDue_43 : decode cX4_endThoseDue 43 = .ok (.iload_n 2, 1) := by decide +kernel
theorem dX4_endThoseDue_44 : decode cX4_endThoseDue 44 = .ok (.iconst 3, 1) := by decide +kernel
theorem dX4_endThoseDue_45 : decode cX4_endThoseDue 45 = .ok (.invokevirtual 98, 3) := by decide +kernel
theorem dX4_endThoseDue_48 : decode cX4_endThoseDue 48 = .ok (.iinc 1 1, 3) := by decide +kernel
theorem dX4_endThoseDue_51 : decode cX4_endThoseDue 51 = .ok (.iinc 2 1, 3) := by decide +kernel
theorem dX4_endThoseDue_54 : decode cX4_endThoseDue 54 = .ok (.goto (-50), 3) := by decide +kernel
theorem dX4_endThoseDue_57 : decode cX4_endThoseDue 57 = .ok (.iload_n 1, 1) := by decide +kernel
theorem dX4_endThoseDue_58 : decode cX4_endThoseDue 58 = .ok (.ireturn, 1) := by decide +kernel
theorem dX5_init_0 : decode cX5_init 0 = .ok (.aload_n 0, 1) := by decide +kernel
theorem dX5_init_1 : decode cX5_init 1 = .ok (.invokespecial 3, 3) := by decide +kernel
theorem dX5_init_4 : decode cX5_init 4 = .ok (.aload_n 0, 1) := by decide +kernel
theorem dX5_init_5 : decode cX5_init 5 = .ok (.sipush 240, 3) := by decide +kernel
theorem dX5_init_8 : decode cX5_init 8 = .ok (.newarray .int, 2) := by decide +kernel
theorem dX5_init_10 : decode cX5_init 10 = .ok (.putfield 9, 3) := by decide +kernel
theorem dX5_init_13 : decode cX5_init 13 = .ok (.aload_n 0, 1) := by decide +kernel
theorem dX5_init_14 : decode cX5_init 14 = .ok (.iconst 0, 1) := by decide +kernel
theorem dX5_init_15 : decode cX5_init 15 = .ok (.putfield 15, 3) := by decide +kernel
theorem dX5_init_18 : decode cX5_init 18 = .ok (.return_, 1) := by decide +kernel
theorem dX5_append_0 : decode cX5_append 0 = .ok (.bipush 24, 2) := by decide +kernel
theorem dX5_append_2 : decode cX5_append 2 = .ok (.istore_n 2, 1) := by decide +kernel
theorem dX5_append_3 : decode cX5_append 3 = .ok (.iload_n 2, 1) := by decide +kernel
theorem dX5_append_4 : decode cX5_append 4 = .ok (.ifCond .lt 45, 3) := by decide +kernel
theorem dX5_append_7 : decode cX5_append 7 = .ok (.aload_n 0, 1) := by decide +kernel
theorem dX5_append_8 : decode cX5_append 8 = .ok (.getfield 15, 3) := by decide +kernel
theorem dX5_append_11 : decode cX5_append 11 = .ok (.sipush 240, 3) := by decide +kernel
theorem dX5_append_14 : decode cX5_append 14 = .ok (.if_icmp .ge 35, 3) := by decide +kernel
theorem dX5_append_17 : decode cX5_append 17 = .ok (.aload_n 0, 1) := by decide +kernel
theorem dX5_append_18 : decode cX5_append 18 = .ok (.getfield 9, 3) := by decide +kernel
theorem dX5_append_21 : decode cX5_append 21 = .ok (.aload_n 0, 1) := by decide +kernel
theorem dX5_append_22 : decode cX5_append 22 = .ok (.getfield 15, 3) := by decide +kernel
theorem dX5_append_25 : decode cX5_append 25 = .ok (.iload_n 1, 1) := by decide +kernel
theorem dX5_append_26 : decode cX5_append 26 = .ok (.iload_n 2, 1) := by decide +kernel
theorem dX5_append_27 : decode cX5_append 27 = .ok (.iushr, 1) := by decide +kernel
theorem dX5_append_28 : decode cX5_append 28 = .ok (.sipush 255, 3) := by decide +kernel
theorem dX5_append_31 : decode cX5_append 31 = .ok (.iand, 1) := by decide +kernel
theorem dX5_append_32 : decode cX5_append 32 = .ok (.iastore, 1) := by decide +kernel
theorem dX5_append_33 : decode cX5_append 33 = .ok (.aload_n 0, 1) := by decide +kernel
theorem dX5_append_34 : decode cX5_append 34 = .ok (.dup, 1) := by decide +kernel
theorem dX5_append_35 : decode cX5_append 35 = .ok (.getfield 15, 3) := by decide +kernel
theorem dX5_append_38 : decode cX5_append 38 = .ok (.iconst 1, 1) := by decide +kernel
theorem dX5_append_39 : decode cX5_append 39 = .ok (.iadd, 1) := by decide +kernel
theorem dX5_append_40 : decode cX5_append 40 = .ok (.putfield 15, 3) := by decide +kernel
theorem dX5_append_43 : decode cX5_append 43 = .ok (.iinc 2 (-8), 3) := by decide +kernel
theorem dX5_append_46 : decode cX5_append 46 = .ok (.goto (-43), 3) := by decide +kernel
theorem dX5_append_49 : decode cX5_append 49 = .ok (.return_, 1) := by decide +kernel
theorem dX6_init_0 : decode cX6_init 0 = .ok (.aload_n 0, 1) := by decide +kernel
theorem dX6_init_1 : decode cX6_init 1 = .ok (.invokespecial 3, 3) := by decide +kernel
theorem dX6_init_4 : decode cX6_init 4 = .ok (.aload_n 0, 1) := by decide +kernel
theorem dX6_init_5 : decode cX6_init 5 = .ok (.iconst 0, 1) := by decide +kernel
theorem dX6_init_6 : decode cX6_init 6 = .ok (.putfield 9, 3) := by decide +kernel
theorem dX6_init_9 : decode cX6_init 9 = .ok (.aload_n 0, 1) := by decide +kernel
theorem dX6_init_10 : decode cX6_init 10 = .ok (.iconst 0, 1) := by decide +kernel
theorem dX6_init_11 : decode cX6_init 11 = .ok (.putfield 15, 3) := by decide +kernel
theorem dX6_init_14 : decode cX6_init 14 = .ok (.aload_n 0, 1) := by decide +kernel
theorem dX6_init_15 : decode cX6_init 15 = .ok (.iconst 0, 1) := by decide +kernel
theorem dX6_init_16 : decode cX6_init 16 = .ok (.putfield 18, 3) := by decide +kernel
theorem dX6_init_19 : decode cX6_init 19 = .ok (.aload_n 0, 1) := by decide +kernel
theorem dX6_init_20 : decode cX6_init 20 = .ok (.iconst (-1), 1) := by decide +kernel
theorem dX6_init_21 : decode cX6_init 21 = .ok (.putfield 21, 3) := by decide +kernel
theorem dX6_init_24 : decode cX6_init 24 = .ok (.aload_n 0, 1) := by decide +kernel
theorem dX6_init_25 : decode cX6_init 25 = .ok (.iconst 0, 1) := by decide +kernel
theorem dX6_init_26 : decode cX6_init 26 = .ok (.putfield 24, 3) := by decide +kernel
theorem dX6_init_29 : decode cX6_init 29 = .ok (.aload_n 0, 1) := by decide +kernel
theorem dX6_init_30 : decode cX6_init 30 = .ok (.aload_n 1, 1) := by decide +kernel
theorem dX6_init_31 : decode cX6_init 31 = .ok (.putfield 27, 3) := by decide +kernel
theorem dX6_init_34 : decode cX6_init 34 = .ok (.aload_n 0, 1) := by decide +kernel
theorem dX6_init_35 : decode cX6_init 35 = .ok (.aload_n 2, 1) := by decide +kernel
theorem dX6_init_36 : decode cX6_init 36 = .ok (.putfield 31, 3) := by decide +kernel
theorem dX6_init_39 : decode cX6_init 39 = .ok (.return_, 1) := by decide +kernel
theorem dX6_run_0 : decode cX6_run 0 = .ok (.aload_n 0, 1) := by decide +kernel
theorem dX6_run_1 : decode cX6_run 1 = .ok (.getfield 27, 3) := by decide +kernel
theorem dX6_run_4 : decode cX6_run 4 = .ok (.aload_n 1, 1) := by decide +kernel
theorem dX6_run_5 : decode cX6_run 5 = .ok (.invokevirtual 35, 3) := by decide +kernel
theorem dX6_run_8 : decode cX6_run 8 = .ok (.aload_n 0, 1) := by decide +kernel
theorem dX6_run_9 : decode cX6_run 9 = .ok (.getfield 27, 3) := by decide +kernel
theorem dX6_run_12 : decode cX6_run 12 = .ok (.invokevirtual 41, 3) := by decide +kernel
theorem dX6_run_15 : decode cX6_run 15 = .ok (.aload_n 0, 1) := by decide +kernel
theorem dX6_run_16 : decode cX6_run 16 = .ok (.aload_n 1, 1) := by decide +kernel
theorem dX6_run_17 : decode cX6_run 17 = .ok (.getfield 44, 3) := by decide +kernel
theorem dX6_run_20 : decode cX6_run 20 = .ok (.putfield 9, 3) := by decide +kernel
theorem dX6_run_23 : decode cX6_run 23 = .ok (.aload_n 0, 1) := by decide +kernel
theorem dX6_run_24 : decode cX6_run 24 = .ok (.iconst 0, 1) := by decide +kernel
theorem dX6_run_25 : decode cX6_run 25 = .ok (.putfield 15, 3) := by decide +kernel
theorem dX6_run_28 : decode cX6_run 28 = .ok (.aload_n 0, 1) := by decide +kernel
theorem dX6_run_29 : decode cX6_run 29 = .ok (.iconst 0, 1) := by decide +kernel
theorem dX6_run_30 : decode cX6_run 30 = .ok (.putfield 18, 3) := by decide +kernel
theorem dX6_run_33 : decode cX6_run 33 = .ok (.aload_n 0, 1) := by decide +kernel
theorem dX6_run_34 : decode cX6_run 34 = .ok (.iconst (-1), 1) := by decide +kernel
theorem dX6_run_35 : decode cX6_run 35 = .ok (.putfield 21, 3) := by decide +kernel
theorem dX6_run_38 : decode cX6_run 38 = .ok (.aload_n 0, 1) := by decide +kernel
theorem dX6_run_39 : decode cX6_run 39 = .ok (.iconst 0, 1) := by decide +kernel
theorem dX6_run_40 : decode cX6_run 40 = .ok (.putfield 24, 3) := by decide +kernel
theorem dX6_run_43 : decode cX6_run 43 = .ok (.iconst 0, 1) := by decide +kernel
theorem dX6_run_44 : decode cX6_run 44 = .ok (.istore 5, 2) := by decide +kernel
theorem dX6_run_46 : decode cX6_run 46 = .ok (.iload 5, 2) := by decide +kernel
theorem dX6_run_48 : decode cX6_run 48 = .ok (.iload_n 2, 1) := by decide +kernel
theorem dX6_run_49 : decode cX6_run 49 = .ok (.if_icmp .ge 24, 3) := by decide +kernel
theorem dX6_run_52 : decode cX6_run 52 = .ok (.aload_n 0, 1) := by decide +kernel
theorem dX6_run_53 : decode cX6_run 53 = .ok (.iload 5, 2) := by decide +kernel
theorem dX6_run_55 : decode cX6_run 55 = .ok (.invokevirtual 45, 3) := by decide +kernel
theorem dX6_run_58 : decode cX6_run 58 = .ok (.aload_n 0, 1) := by decide +kernel
theorem dX6_run_59 : decode cX6_run 59 = .ok (.iload 5, 2) := by decide +kernel
theorem dX6_run_61 : decode cX6_run 61 = .ok (.iload_n 3, 1) := by decide +kernel
theorem dX6_run_62 : decode cX6_run 62 = .ok (.iload 4, 2) := by decide +kernel
theorem dX6_run_64 : decode cX6_run 64 = .ok (.invokevirtual 49, 3) := by decide +kernel
theorem dX6_run_67 : decode cX6_run 67 = .ok (.iinc 5 1, 3) := by decide +kernel
theorem dX6_run_70 : decode cX6_run 70 = .ok (.goto (-24), 3) := by decide +kernel
theorem dX6_run_73 : decode cX6_run 73 = .ok (.return_, 1) := by decide +kernel
theorem dX6_endThoseOf_0 : decode cX6_endThoseOf 0 = .ok (.iconst 0, 1) := by decide +kernel
theorem dX6_endThoseOf_1 : decode cX6_endThoseOf 1 = .ok (.istore_n 2, 1) := by decide +kernel
theorem dX6_endThoseOf_2 : decode cX6_endThoseOf 2 = .ok (.iload_n 2, 1) := by decide +kernel
theorem dX6_endThoseOf_3 : decode cX6_endThoseOf 3 = .ok (.bipush 40, 2) := by decide +kernel
theorem dX6_endThoseOf_5 : decode cX6_endThoseOf 5 = .ok (.if_icmp .ge 53, 3) := by decide +kernel
theorem dX6_endThoseOf_8 : decode cX6_endThoseOf 8 = .ok (.aload_n 0, 1) := by decide +kernel
theorem dX6_endThoseOf_9 : decode cX6_endThoseOf 9 = .ok (.getfield 27, 3) := by decide +kernel
theorem dX6_endThoseOf_12 : decode cX6_endThoseOf 12 = .ok (.getfield 53, 3) := by decide +kernel
theorem dX6_endThoseOf_15 : decode cX6_endThoseOf 15 = .ok (.iload_n 2, 1) := by decide +kernel
theorem dX6_endThoseOf_16 : decode cX6_endThoseOf 16 = .ok (.iaload, 1) := by decide +kernel
theorem dX6_endThoseOf_17 : decode cX6_endThoseOf 17 = .ok (.ifCond .ne 35, 3) := by decide +kernel
theorem dX6_endThoseOf_20 : decode cX6_endThoseOf 20 = .ok (.aload_n 0, 1) := by decide +kernel
theorem dX6_endThoseOf_21 : decode cX6_endThoseOf 21 = .ok (.getfield 27, 3) := by decide +kernel
theorem dX6_endThoseOf_24 : decode cX6_endThoseOf 24 = .ok (.getfield 57, 3) := by decide +kernel
theorem dX6_endThoseOf_27 : decode cX6_endThoseOf 27 = .ok (.iload_n 2, 1) := by decide +kernel
theorem dX6_endThoseOf_28 : decode cX6_endThoseOf 28 = .ok (.iaload, 1) := by decide +kernel
theorem dX6_endThoseOf_29 : decode cX6_endThoseOf 29 = .ok (.iload_n 1, 1) := by decide +kernel
theorem dX6_endThoseOf_30 : decode cX6_endThoseOf 30 = .ok (.if_icmp .ne 22, 3) := by decide +kernel
theorem dX6_endThoseOf_33 : decode cX6_endThoseOf 33 = .ok (.aload_n 0, 1) := by decide +kernel
theorem dX6_endThoseOf_34 : decode cX6_endThoseOf 34 = .ok (.getfield 27, 3) := by decide +kernel
theorem dX6_endThoseOf_37 : decode cX6_endThoseOf 37 = .ok (.iload_n 2, 1) := by decide +kernel
theorem dX6_endThoseOf_38 : decode cX6_endThoseOf 38 = .ok (.iconst 3, 1) := by decide +kernel
theorem dX6_endThoseOf_39 : decode cX6_endThoseOf 39 = .ok (.invokevirtual 60, 3) := by decide +kernel
theorem dX6_endThoseOf_42 : decode cX6_endThoseOf 42 = .ok (.aload_n 0, 1) := by decide +kernel
theorem dX6_endThoseOf_43 : decode cX6_endThoseOf 43 = .ok (.dup, 1) := by decide +kernel
theorem dX6_endThoseOf_44 : decode cX6_endThoseOf 44 = .ok (.getfield 24, 3) := by decide +kernel
theorem dX6_endThoseOf_47 : decode cX6_endThoseOf 47 = .ok (.iconst 1, 1) := by decide +kernel
theorem dX6_endThoseOf_48 : decode cX6_endThoseOf 48 = .ok (.isub, 1) := by decide +kernel
theorem dX6_endThoseOf_49 : decode cX6_endThoseOf 49 = .ok (.putfield 24, 3) := by decide +kernel
theorem dX6_endThoseOf_52 : decode cX6_endThoseOf 52 = .ok (.iinc 2 1, 3) := by decide +kernel
theorem dX6_endThoseOf_55 : decode cX6_endThoseOf 55 = .ok (.goto (-53), 3) := by decide +kernel
theorem dX6_endThoseOf_58 : decode cX6_endThoseOf 58 = .ok (.return_, 1) := by decide +kernel
theorem dX6_askAt_0 : decode cX6_askAt 0 = .ok (.iconst 2, 1) := by decide +kernel
theorem dX6_askAt_1 : decode cX6_askAt 1 = .ok (.aload_n 0, 1) := by decide +kernel
theorem dX6_askAt_2 : decode cX6_askAt 2 = .ok (.getfield 27, 3) := by decide +kernel
theorem dX6_askAt_5 : decode cX6_askAt 5 = .ok (.getfield 64, 3) := by decide +kernel
theorem dX6_askAt_8 : decode cX6_askAt 8 = .ok (.getfield 68, 3) := by decide +kernel
theorem dX6_askAt_11 : decode cX6_askAt 11 = .ok (.invokestatic 73, 3) := by decide +kernel
theorem dX6_askAt_14 : decode cX6_askAt 14 = .ok (.istore 4, 2) := by decide +kernel
theorem dX6_askAt_16 : decode cX6_askAt 16 = .ok (.aload_n 0, 1) := by decide +kernel
theorem dX6_askAt_17 : decode cX6_askAt 17 = .ok (.iload 4, 2) := by decide +kernel
theorem dX6_askAt_19 : decode cX6_askAt 19 = .ok (.invokevirtual 79, 3) := by decide +kernel
theorem dX6_askAt_22 : decode cX6_askAt 22 = .ok (.istore 5, 2) := by decide +kernel
theorem dX6_askAt_24 : decode cX6_askAt 24 = .ok (.iload 5, 2) := by decide +kernel
theorem dX6_askAt_26 : decode cX6_askAt 26 = .ok (.iconst 1, 1) := by decide +kernel
theorem dX6_askAt_27 : decode cX6_askAt 27 = .ok (.iadd, 1) := by decide +kernel
theorem dX6_askAt_28 : decode cX6_askAt 28 = .ok (.aload_n 0, 1) := by decide +kernel
theorem dX6_askAt_29 : decode cX6_askAt 29 = .ok (.iload 4, 2) := by decide +kernel
theorem dX6_askAt_31 : decode cX6_askAt 31 = .ok (.iconst 1, 1) := by decide +kernel
theorem dX6_askAt_32 : decode cX6_askAt 32 = .ok (.isub, 1) := by decide +kernel
theorem dX6_askAt_33 : decode cX6_askAt 33 = .ok (.invokevirtual 79, 3) := by decide +kernel
theorem dX6_askAt_36 : decode cX6_askAt 36 = .ok (.iadd, 1) := by decide +kernel
theorem dX6_askAt_37 : decode cX6_askAt 37 = .ok (.iload 4, 2) := by decide +kernel
theorem dX6_askAt_39 : decode cX6_askAt 39 = .ok (.irem, 1) := by decide +kernel
theorem dX6_askAt_40 : decode cX6_askAt 40 = .ok (.istore 6, 2) := by decide +kernel
theorem dX6_askAt_42 : decode cX6_askAt 42 = .ok (.iconst 1, 1) := by decide +kernel
theorem dX6_askAt_43 : decode cX6_askAt 43 = .ok (.aload_n 0, 1) := by decide +kernel
theorem dX6_askAt_44 : decode cX6_askAt 44 = .ok (.iload_n 2, 1) := by decide +kernel
theorem dX6_askAt_45 : decode cX6_askAt 45 = .ok (.invokevirtual 79, 3) := by decide +kernel
theorem dX6_askAt_48 : decode cX6_askAt 48 = .ok (.iadd, 1) := by decide +kernel
theorem dX6_askAt_49 : decode cX6_askAt 49 = .ok (.istore 7, 2) := by decide +kernel
theorem dX6_askAt_51 : decode cX6_askAt 51 = .ok (.iload_n 1, 1) := by decide +kernel
theorem dX6_askAt_52 : decode cX6_askAt 52 = .ok (.iconst 1, 1) := by decide +kernel
theorem dX6_askAt_53 : decode cX6_askAt 53 = .ok (.iadd, 1) := by decide +kernel
theorem dX6_askAt_54 : decode cX6_askAt 54 = .ok (.aload_n 0, 1) := by decide +kernel
theorem dX6_askAt_55 : decode cX6_askAt 55 = .ok (.bipush 20, 2) := by decide +kernel
theorem dX6_askAt_57 : decode cX6_askAt 57 = .ok (.invokevirtual 79, 3) := by decide +kernel
theorem dX6_askAt_60 : decode cX6_askAt 60 = .ok (.iadd, 1) := by decide +kernel
theorem dX6_askAt_61 : decode cX6_askAt 61 = .ok (.istore 8, 2) := by decide +kernel
theorem dX6_askAt_63 : decode cX6_askAt 63 = .ok (.aload_n 0, 1) := by decide +kernel
theorem dX6_askAt_64 : decode cX6_askAt 64 = .ok (.getfield 31, 3) := by decide +kernel
theorem dX6_askAt_67 : decode cX6_askAt 67 = .ok (.aload_n 0, 1) := by decide +kernel
theorem dX6_askAt_68 : decode cX6_askAt 68 = .ok (.getfield 27, 3) := by decide +kernel
theorem dX6_askAt_71 : decode cX6_askAt 71 = .ok (.iload 5, 2) := by decide +kernel
theorem dX6_askAt_73 : decode cX6_askAt 73 = .ok (.iload 6, 2) := by decide +kernel
theorem dX6_askAt_75 : decode cX6_askAt 75 = .ok (.iload 7, 2) := by decide +kernel
theorem dX6_askAt_77 : decode cX6_askAt 77 = .ok (.iload_n 3, 1) := by decide +kernel
theorem dX6_askAt_78 : decode cX6_askAt 78 = .ok (.invokevirtual 83, 3) := by decide +kernel
theorem dX6_askAt_81 : decode cX6_askAt 81 = .ok (.ifCond .ne 25, 3) := by decide +kernel
theorem dX6_askAt_84 : decode cX6_askAt 84 = .ok (.aload_n 0, 1) := by decide +kernel
theorem dX6_askAt_85 : decode cX6_askAt 85 = .ok (.dup, 1) := by decide +kernel
theorem dX6_askAt_86 : decode cX6_askAt 86 = .ok (.getfield 15, 3) := by decide +kernel
theorem dX6_askAt_89 : decode cX6_askAt 89 = .ok (.iconst 1, 1) := by decide +kernel
theorem dX6_askAt_90 : decode cX6_askAt 90 = .ok (.iadd, 1) := by decide +kernel
theorem dX6_askAt_91 : decode cX6_askAt 91 = .ok (.putfield 15, 3) := by decide +kernel
theorem dX6_askAt_94 : decode cX6_askAt 94 = .ok (.aload_n 0, 1) := by decide +kernel
theorem dX6_askAt_95 : decode cX6_askAt 95 = .ok (.dup, 1) := by decide +kernel
theorem dX6_askAt_96 : decode cX6_askAt 96 = .ok (.getfield 18, 3) := by decide +kernel
theorem dX6_askAt_99 : decode cX6_askAt 99 = .ok (.iload 7, 2) := by decide +kernel
theorem dX6_askAt_101 : decode cX6_askAt 101 = .ok (.iadd, 1) := by decide +kernel
theorem dX6_askAt_102 : decode cX6_askAt 102 = .ok (.putfield 18, 3) := by decide +kernel
theorem dX6_askAt_105 : decode cX6_askAt 105 = .ok (.return_, 1) := by decide +kernel
theorem dX6_askAt_106 : decode cX6_askAt 106 = .ok (.iload_n 1, 1) := by decide +kernel
theorem dX6_askAt_107 : decode cX6_askAt 107 = .ok (.bipush 40, 2) := by decide +kernel
theorem dX6_askAt_109 : decode cX6_askAt 109 = .ok (.irem, 1) := by decide +kernel
theorem dX6_askAt_110 : decode cX6_askAt 110 = .ok (.istore 9, 2) := by decide +kernel
theorem dX6_askAt_112 : decode cX6_askAt 112 = .ok (.aload_n 0, 1) := by decide +kernel
theorem dX6_askAt_113 : decode cX6_askAt 113 = .ok (.getfield 27, 3) := by decide +kernel
theorem dX6_askAt_116 : decode cX6_askAt 116 = .ok (.iload 9, 2) := by decide +kernel
theorem dX6_askAt_118 : decode cX6_askAt 118 = .ok (.aload_n 0, 1) := by decide +kernel
theorem dX6_askAt_119 : decode cX6_askAt 119 = .ok (.getfield 31, 3) := by decide +kernel
theorem dX6_askAt_122 : decode cX6_askAt 122 = .ok (.getfield 89, 3) := by decide +kernel
theorem dX6_askAt_125 : decode cX6_askAt 125 = .ok (.aload_n 0, 1) := by decide +kernel
theorem dX6_askAt_126 : decode cX6_askAt 126 = .ok (.getfield 31, 3) := by decide +kernel
theorem dX6_askAt_129 : decode cX6_askAt 129 = .ok (.getfield 92, 3) := by decide +kernel
theorem dX6_askAt_132 : decode cX6_askAt 132 = .ok (.aload_n 0, 1) := by decide +kernel
theorem dX6_askAt_133 : decode cX6_askAt 133 = .ok (.getfield 31, 3) := by decide +kernel
theorem dX6_askAt_136 : decode cX6_askAt 136 = .ok (.getfield 95, 3) := by decide +kernel
theorem dX6_askAt_139 : decode cX6_askAt 139 = .ok (.invokevirtual 98, 3) := by decide +kernel
theorem dX6_askAt_142 : decode cX6_askAt 142 = .ok (.aload_n 0, 1) := by decide +kernel
theorem dX6_askAt_143 : decode cX6_askAt 143 = .ok (.getfield 27, 3) := by decide +kernel
theorem dX6_askAt_146 : decode cX6_askAt 146 = .ok (.getfield 57, 3) := by decide +kernel
theorem dX6_askAt_149 : decode cX6_askAt 149 = .ok (.iload 9, 2) := by decide +kernel
theorem dX6_askAt_151 : decode cX6_askAt 151 = .ok (.iload 8, 2) := by decide +kernel
theorem dX6_askAt_153 : decode cX6_askAt 153 = .ok (.iastore, 1) := by decide +kernel
theorem dX6_askAt_154 : decode cX6_askAt 154 = .ok (.aload_n 0, 1) := by decide +kernel
theorem dX6_askAt_155 : decode cX6_askAt 155 = .ok (.dup, 1) := by decide +kernel
theorem dX6_askAt_156 : decode cX6_askAt 156 = .ok (.getfield 24, 3) := by decide +kernel
theorem dX6_askAt_159 : decode cX6_askAt 159 = .ok (.iconst 1, 1) := by decide +kernel
theorem dX6_askAt_160 : decode cX6_askAt 160 = .ok (.iadd, 1) := by decide +kernel
theorem dX6_askAt_161 : decode cX6_askAt 161 = .ok (.putfield 24, 3) := by decide +kernel
theorem dX6_askAt_164 : decode cX6_askAt 164 = .ok (.aload_n 0, 1) := by decide +kernel
theorem dX6_askAt_165 : decode cX6_askAt 165 = .ok (.aload_n 0, 1) := by decide +kernel
theorem dX6_askAt_166 : decode cX6_askAt 166 = .ok (.getfield 21, 3) := by decide +kernel
theorem dX6_askAt_169 : decode cX6_askAt 169 = .ok (.aload_n 0, 1) := by decide +kernel
theorem dX6_askAt_170 : decode cX6_askAt 170 = .ok (.getfield 27, 3) := by decide +kernel
theorem dX6_askAt_173 : decode cX6_askAt 173 = .ok (.invokevirtual 102, 3) := by decide +kernel
theorem dX6_askAt_176 : decode cX6_askAt 176 = .ok (.invokestatic 73, 3) := by decide +kernel
theorem dX6_askAt_179 : decode cX6_askAt 179 = .ok (.putfield 21, 3) := by decide +kernel
theorem dX6_askAt_182 : decode cX6_askAt 182 = .ok (.return_, 1) := by decide +kernel
theorem dX6_draw_0 : decode cX6_draw 0 = .ok (.aload_n 0, 1) := by decide +kernel
theorem dX6_draw_1 : decode cX6_draw 1 = .ok (.sipush 25173, 3) := by decide +kernel
theorem dX6_draw_4 : decode cX6_draw 4 = .ok (.aload_n 0, 1) := by decide +kernel
theorem dX6_draw_5 : decode cX6_draw 5 = .ok (.getfield 9, 3) := by decide +kernel
theorem dX6_draw_8 : decode cX6_draw 8 = .ok (.imul, 1) := by decide +kernel
theorem dX6_draw_9 : decode cX6_draw 9 = .ok (.sipush 13849, 3) := by decide +kernel
theorem dX6_draw_12 : decode cX6_draw 12 = .ok (.iadd, 1) := by decide +kernel
theorem dX6_draw_13 : decode cX6_draw 13 = .ok (.ldc 106, 2) := by decide +kernel
theorem dX6_draw_15 : decode cX6_draw 15 = .ok (.irem, 1) := by decide +kernel
theorem dX6_draw_16 : decode cX6_draw 16 = .ok (.putfield 9, 3) := by decide +kernel
theorem dX6_draw_19 : decode cX6_draw 19 = .ok (.iload_n 1, 1) := by decide +kernel
theorem dX6_draw_20 : decode cX6_draw 20 = .ok (.ifCond .le 12, 3) := by decide +kernel
theorem dX6_draw_23 : decode cX6_draw 23 = .ok (.aload_n 0, 1) := by decide +kernel
theorem dX6_draw_24 : decode cX6_draw 24 = .ok (.getfield 9, 3) := by decide +kernel
theorem dX6_draw_27 : decode cX6_draw 27 = .ok (.iload_n 1, 1) := by decide +kernel
theorem dX6_draw_28 : decode cX6_draw 28 = .ok (.irem, 1) := by decide +kernel
theorem dX6_draw_29 : decode cX6_draw 29 = .ok (.goto 4, 3) := by decide +kernel
theorem dX6_draw_32 : decode cX6_draw 32 = .ok (.iconst 0, 1) := by decide +kernel
theorem dX6_draw_33 : decode cX6_draw 33 = .ok (.ireturn, 1) := by decide +kernel
theorem dX7_init_0 : decode cX7_init 0 = .ok (.aload_n 0, 1) := by decide +kernel
theorem dX7_init_1 : decode cX7_init 1 = .ok (.invokespecial 3, 3) := by decide +kernel
theorem dX7_init_4 : decode cX7_init 4 = .ok (.aload_n 0, 1) := by decide +kernel
theorem dX7_init_5 : decode cX7_init 5 = .ok (.bipush 64, 2) := by decide +kernel
theorem dX7_init_7 : decode cX7_init 7 = .ok (.newarray .int, 2) := by decide +kernel
theorem dX7_init_9 : decode cX7_init 9 = .ok (.putfield 9, 3) := by decide +kernel
theorem dX7_init_12 : decode cX7_init 12 = .ok (.aload_n 0, 1) := by decide +kernel
theorem dX7_init_13 : decode cX7_init 13 = .ok (.bipush 64, 2) := by decide +kernel
theorem dX7_init_15 : decode cX7_init 15 = .ok (.newarray .int, 2) := by decide +kernel
theorem dX7_init_17 : decode cX7_init 17 = .ok (.putfield 15, 3) := by decide +kernel
theorem dX7_init_20 : decode cX7_init 20 = .ok (.aload_n 0, 1) := by decide +kernel
theorem dX7_init_21 : decode cX7_init 21 = .ok (.sipush 256, 3) := by decide +kernel
theorem dX7_init_24 : decode cX7_init 24 = .ok (.newarray .int, 2) := by decide +kernel
theorem dX7_init_26 : decode cX7_init 26 = .ok (.putfield 18, 3) := by decide +kernel
theorem dX7_init_29 : decode cX7_init 29 = .ok (.aload_n 0, 1) := by decide +kernel
theorem dX7_init_30 : decode cX7_init 30 = .ok (.sipush 256, 3) := by decide +kernel
theorem dX7_init_33 : decode cX7_init 33 = .ok (.newarray .int, 2) := by decide +kernel
theorem dX7_init_35 : decode cX7_init 35 = .ok (.putfield 21, 3) := by decide +kernel
theorem dX7_init_38 : decode cX7_init 38 = .ok (.aload_n 0, 1) := by decide +kernel
theorem dX7_init_39 : decode cX7_init 39 = .ok (.sipush 256, 3) := by decide +kernel
theorem dX7_init_42 : decode cX7_init 42 = .ok (.newarray .int, 2) := by decide +kernel
theorem dX7_init_44 : decode cX7_init 44 = .ok (.putfield 24, 3) := by decide +kernel
theorem dX7_init_47 : decode cX7_init 47 = .ok (.aload_n 0, 1) := by decide +kernel
theorem dX7_init_48 : decode cX7_init 48 = .ok (.iconst 0, 1) := by decide +kernel
theorem dX7_init_49 : decode cX7_init 49 = .ok (.putfield 27, 3) := by decide +kernel
theorem dX7_init_52 : decode cX7_init 52 = .ok (.aload_n 0, 1) := by decide +kernel
theorem dX7_init_53 : decode cX7_init 53 = .ok (.iconst 0, 1) := by decide +kernel
theorem dX7_init_54 : decode cX7_init 54 = .ok (.putfield 31, 3) := by decide +kernel
theorem dX7_init_57 : decode cX7_init 57 = .ok (.aload_n 0, 1) := by decide +kernel
theorem dX7_init_58 : decode cX7_init 58 = .ok (.iconst 0, 1) := by decide +kernel
theorem dX7_init_59 : decode cX7_init 59 = .ok (.putfield 34, 3) := by decide +kernel
theorem dX7_init_62 : decode cX7_init 62 = .ok (.aload_n 0, 1) := by decide +kernel
theorem dX7_init_63 : decode cX7_init 63 = .ok (.invokevirtual 37, 3) := by decide +kernel
theorem dX7_init_66 : decode cX7_init 66 = .ok (.return_, 1) := by decide +kernel
theorem dX7_forget_0 : decode cX7_forget 0 = .ok (.iconst 0, 1) := by decide +kernel
theorem dX7_forget_1 : decode cX7_forget 1 = .ok (.istore_n 1, 1) := by decide +kernel
theorem dX7_forget_2 : decode cX7_forget 2 = .ok (.iload_n 1, 1) := by decide +kernel
theorem dX7_forget_3 : decode cX7_forget 3 = .ok (.aload_n 0, 1) := by decide +kernel
theorem dX7_forget_4 : decode cX7_forget 4 = .ok (.getfield 15, 3) := by decide +kernel
theorem dX7_forget_7 : decode cX7_forget 7 = .ok (.arraylength, 1) := by decide +kernel
theorem dX7_forget_8 : decode cX7_forget 8 = .ok (.if_icmp .ge 16, 3) := by decide +kernel
theorem dX7_forget_11 : decode cX7_forget 11 = .ok (.aload_n 0, 1) := by decide +kernel
theorem dX7_forget_12 : decode cX7_forget 12 = .ok (.getfield 15, 3) := by decide +kernel
theorem dX7_forget_15 : decode cX7_forget 15 = .ok (.iload_n 1, 1) := by decide +kernel
theorem dX7_forget_16 : decode cX7_forget 16 = .ok (.iconst (-1), 1) := by decide +kernel
theorem dX7_forget_17 : decode cX7_forget 17 = .ok (.iastore, 1) := by decide +kernel
theorem dX7_forget_18 : decode cX7_forget 18 = .ok (.iinc 1 1, 3) := by decide +kernel
theorem dX7_forget_21 : decode cX7_forget 21 = .ok (.goto (-19), 3) := by decide +kernel
theorem dX7_forget_24 : decode cX7_forget 24 = .ok (.return_, 1) := by decide +kernel
theorem dX7_pairOf_0 : decode cX7_pairOf 0 = .ok (.aload_n 0, 1) := by decide +kernel
theorem dX7_pairOf_1 : decode cX7_pairOf 1 = .ok (.iload_n 2, 1) := by decide +kernel
theorem dX7_pairOf_2 : decode cX7_pairOf 2 = .ok (.bipush 8, 2) := by decide +kernel
theorem dX7_pairOf_4 : decode cX7_pairOf 4 = .ok (.imul, 1) := by decide +kernel
theorem dX7_pairOf_5 : decode cX7_pairOf 5 = .ok (.iload_n 3, 1) := by decide +kernel
theorem dX7_pairOf_6 : decode cX7_pairOf 6 = .ok (.iadd, 1) := by decide +kernel
theorem dX7_pairOf_7 : decode cX7_pairOf 7 = .ok (.putfield 27, 3) := by decide +kernel
theorem dX7_pairOf_10 : decode cX7_pairOf 10 = .ok (.aload_n 0, 1) := by decide +kernel
theorem dX7_pairOf_11 : decode cX7_pairOf 11 = .ok (.getfield 15, 3) := by decide +kernel
theorem dX7_pairOf_14 : decode cX7_pairOf 14 = .ok (.aload_n 0, 1) := by decide +kernel
theorem dX7_pairOf_15 : decode cX7_pairOf 15 = .ok (.getfield 27, 3) := by decide +kernel
theorem dX7_pairOf_18 : decode cX7_pairOf 18 = .ok (.iaload, 1) := by decide +kernel
theorem dX7_pairOf_19 : decode cX7_pairOf 19 = .ok (.aload_n 1, 1) := by decide +kernel
theorem dX7_pairOf_20 : decode cX7_pairOf 20 = .ok (.getfield 40, 3) := by decide +kernel
theorem dX7_pairOf_23 : decode cX7_pairOf 23 = .ok (.if_icmp .eq 54, 3) := by decide +kernel
theorem dX7_pairOf_26 : decode cX7_pairOf 26 = .ok (.aload_n 0, 1) := by decide +kernel
theorem dX7_pairOf_27 : decode cX7_pairOf 27 = .ok (.getfield 9, 3) := by decide +kernel
theorem dX7_pairOf_30 : decode cX7_pairOf 30 = .ok (.aload_n 0, 1) := by decide +kernel
theorem dX7_pairOf_31 : decode cX7_pairOf 31 = .ok (.getfield 27, 3) := by decide +kernel
theorem dX7_pairOf_34 : decode cX7_pairOf 34 = .ok (.iconst 0, 1) := by decide +kernel
theorem dX7_pairOf_35 : decode cX7_pairOf 35 = .ok (.iastore, 1) := by decide +kernel
theorem dX7_pairOf_36 : decode cX7_pairOf 36 = .ok (.aload_n 0, 1) := by decide +kernel
theorem dX7_pairOf_37 : decode cX7_pairOf 37 = .ok (.getfield 15, 3) := by decide +kernel
theorem dX7_pairOf_40 : decode cX7_pairOf 40 = .ok (.aload_n 0, 1) := by decide +kernel
theorem dX7_pairOf_41 : decode cX7_pairOf 41 = .ok (.getfield 27, 3) := by decide +kernel
theorem dX7_pairOf_44 : decode cX7_pairOf 44 = .ok (.aload_n 1, 1) := by decide +kernel
theorem dX7_pairOf_45 : decode cX7_pairOf 45 = .ok (.getfield 40, 3) := by decide +kernel
theorem dX7_pairOf_48 : decode cX7_pairOf 48 = .ok (.iastore, 1) := by decide +kernel
theorem dX7_pairOf_49 : decode cX7_pairOf 49 = .ok (.aload_n 0, 1) := by decide +kernel
theorem dX7_pairOf_50 : decode cX7_pairOf 50 = .ok (.aload_n 1, 1) := by decide +kernel
theorem dX7_pairOf_51 : decode cX7_pairOf 51 = .ok (.getfield 40, 3) := by decide +kernel
theorem dX7_pairOf_54 : decode cX7_pairOf 54 = .ok (.putfield 34, 3) := by decide +kernel
theorem dX7_pairOf_57 : decode cX7_pairOf 57 = .ok (.aload_n 0, 1) := by decide +kernel
theorem dX7_pairOf_58 : decode cX7_pairOf 58 = .ok (.iload_n 3, 1) := by decide +kernel
theorem dX7_pairOf_59 : decode cX7_pairOf 59 = .ok (.putfield 31, 3) := by decide +kernel
theorem dX7_pairOf_62 : decode cX7_pairOf 62 = .ok (.aload_n 0, 1) := by decide +kernel
theorem dX7_pairOf_63 : decode cX7_pairOf 63 = .ok (.aload_n 1, 1) := by decide +kernel
theorem dX7_pairOf_64 : decode cX7_pairOf 64 = .ok (.getfield 43, 3) := by decide +kernel
theorem dX7_pairOf_67 : decode cX7_pairOf 67 = .ok (.iload_n 2, 1) := by decide +kernel
theorem dX7_pairOf_68 : decode cX7_pairOf 68 = .ok (.iconst 1, 1) := by decide +kernel
theorem dX7_pairOf_69 : decode cX7_pairOf 69 = .ok (.iload_n 2, 1) := by decide +kernel
theorem dX7_pairOf_70 : decode cX7_pairOf 70 = .ok (.ishl, 1) := by decide +kernel
theorem dX7_pairOf_71 : decode cX7_pairOf 71 = .ok (.iconst 0, 1) := by decide +kernel
theorem dX7_pairOf_72 : decode cX7_pairOf 72 = .ok (.iconst 0, 1) := by decide +kernel
theorem dX7_pairOf_73 : decode cX7_pairOf 73 = .ok (.iconst 0, 1) := by decide +kernel
theorem dX7_pairOf_74 : decode cX7_pairOf 74 = .ok (.invokestatic 47, 3) := by decide +kernel
theorem dX7_pairOf_77 : decode cX7_pairOf 77 = .ok (.aload_n 0, 1) := by decide +kernel
theorem dX7_pairOf_78 : decode cX7_pairOf 78 = .ok (.getfield 27, 3) := by decide +kernel
theorem dX7_pairOf_81 : decode cX7_pairOf 81 = .ok (.ireturn, 1) := by decide +kernel
theorem dX7_walk_0 : decode cX7_walk 0 = .ok (.iload_n 2, 1) := by decide +kernel
theorem dX7_walk_1 : decode cX7_walk 1 = .ok (.aload_n 0, 1) := by decide +kernel
theorem dX7_walk_2 : decode cX7_walk 2 = .ok (.getfield 31, 3) := by decide +kernel
theorem dX7_walk_5 : decode cX7_walk 5 = .ok (.if_icmp .ne 14, 3) := by decide +kernel
theorem dX7_walk_8 : decode cX7_walk 8 = .ok (.aload_n 0, 1) := by decide +kernel
theorem dX7_walk_9 : decode cX7_walk 9 = .ok (.iload 4, 2) := by decide +kernel
theorem dX7_walk_11 : decode cX7_walk 11 = .ok (.iload 5, 2) := by decide +kernel
theorem dX7_walk_13 : decode cX7_walk 13 = .ok (.iload 6, 2) := by decide +kernel
theorem dX7_walk_15 : decode cX7_walk 15 = .ok (.invokevirtual 51, 3) := by decide +kernel
theorem dX7_walk_18 : decode cX7_walk 18 = .ok (.return_, 1) := by decide +kernel
theorem dX7_walk_19 : decode cX7_walk 19 = .ok (.iload 6, 2) := by decide +kernel
theorem dX7_walk_21 : decode cX7_walk 21 = .ok (.bipush 7, 2) := by decide +kernel
theorem dX7_walk_23 : decode cX7_walk 23 = .ok (.if_icmp .lt 4, 3) := by decide +kernel
theorem dX7_walk_26 : decode cX7_walk 26 = .ok (.return_, 1) := by decide +kernel
theorem dX7_walk_27 : decode cX7_walk 27 = .ok (.iconst 0, 1) := by decide +kernel
theorem dX7_walk_28 : decode cX7_walk 28 = .ok (.istore 7, 2) := by decide +kernel
theorem dX7_walk_30 : decode cX7_walk 30 = .ok (.iload 7, 2) := by decide +kernel
theorem dX7_walk_32 : decode cX7_walk 32 = .ok (.aload_n 1, 1) := by decide +kernel
theorem dX7_walk_33 : decode cX7_walk 33 = .ok (.getfield 55, 3) := by decide +kernel
theorem dX7_walk_36 : decode cX7_walk 36 = .ok (.if_icmp .ge 83, 3) := by decide +kernel
theorem dX7_walk_39 : decode cX7_walk 39 = .ok (.aload_n 1, 1) := by decide +kernel
theorem dX7_walk_40 : decode cX7_walk 40 = .ok (.getfield 60, 3) := by decide +kernel
theorem dX7_walk_43 : decode cX7_walk 43 = .ok (.iload_n 2, 1) := by decide +kernel
theorem dX7_walk_44 : decode cX7_walk 44 = .ok (.bipush 8, 2) := by decide +kernel
theorem dX7_walk_46 : decode cX7_walk 46 = .ok (.imul, 1) := by decide +kernel
theorem dX7_walk_47 : decode cX7_walk 47 = .ok (.iload 7, 2) := by decide +kernel
theorem dX7_walk_49 : decode cX7_walk 49 = .ok (.iadd, 1) := by decide +kernel
theorem dX7_walk_50 : decode cX7_walk 50 = .ok (.iaload, 1) := by decide +kernel
theorem dX7_walk_51 : decode cX7_walk 51 = .ok (.istore 8, 2) := by decide +kernel
theorem dX7_walk_53 : decode cX7_walk 53 = .ok (.iload 8, 2) := by decide +kernel
theorem dX7_walk_55 : decode cX7_walk 55 = .ok (.ifCond .lt 58, 3) := by decide +kernel
theorem dX7_walk_58 : decode cX7_walk 58 = .ok (.aload_n 0, 1) := by decide +kernel
theorem dX7_walk_59 : decode cX7_walk 59 = .ok (.getfield 34, 3) := by decide +kernel
theorem dX7_walk_62 : decode cX7_walk 62 = .ok (.iload 8, 2) := by decide +kernel
theorem dX7_walk_64 : decode cX7_walk 64 = .ok (.iushr, 1) := by decide +kernel
theorem dX7_walk_65 : decode cX7_walk 65 = .ok (.iconst 1, 1) := by decide +kernel
theorem dX7_walk_66 : decode cX7_walk 66 = .ok (.iand, 1) := by decide +kernel
theorem dX7_walk_67 : decode cX7_walk 67 = .ok (.ifCond .eq 46, 3) := by decide +kernel
theorem dX7_walk_70 : decode cX7_walk 70 = .ok (.iload_n 3, 1) := by decide +kernel
theorem dX7_walk_71 : decode cX7_walk 71 = .ok (.iload 7, 2) := by decide +kernel
theorem dX7_walk_73 : decode cX7_walk 73 = .ok (.iushr, 1) := by decide +kernel
theorem dX7_walk_74 : decode cX7_walk 74 = .ok (.iconst 1, 1) := by decide +kernel
theorem dX7_walk_75 : decode cX7_walk 75 = .ok (.iand, 1) := by decide +kernel
theorem dX7_walk_76 : decode cX7_walk 76 = .ok (.ifCond .ne 37, 3) := by decide +kernel
theorem dX7_walk_79 : decode cX7_walk 79 = .ok (.aload_n 0, 1) := by decide +kernel
theorem dX7_walk_80 : decode cX7_walk 80 = .ok (.aload_n 1, 1) := by decide +kernel
theorem dX7_walk_81 : decode cX7_walk 81 = .ok (.iload 7, 2) := by decide +kernel
theorem dX7_walk_83 : decode cX7_walk 83 = .ok (.iload_n 3, 1) := by decide +kernel
theorem dX7_walk_84 : decode cX7_walk 84 = .ok (.iconst 1, 1) := by decide +kernel
theorem dX7_walk_85 : decode cX7_walk 85 = .ok (.iload 7, 2) := by decide +kernel
theorem dX7_walk_87 : decode cX7_walk 87 = .ok (.ishl, 1) := by decide +kernel
theorem dX7_walk_88 : decode cX7_walk 88 = .ok (.ior, 1) := by decide +kernel
theorem dX7_walk_89 : decode cX7_walk 89 = .ok (.iload 4, 2) := by decide +kernel
theorem dX7_walk_91 : decode cX7_walk 91 = .ok (.iconst 1, 1) := by decide +kernel
theorem dX7_walk_92 : decode cX7_walk 92 = .ok (.iload 8, 2) := by decide +kernel
theorem dX7_walk_94 : decode cX7_walk 94 = .ok (.ishl, 1) := by decide +kernel
theorem dX7_walk_95 : decode cX7_walk 95 = .ok (.ior, 1) := by decide +kernel
theorem dX7_walk_96 : decode cX7_walk 96 = .ok (.iload 5, 2) := by decide +kernel
theorem dX7_walk_98 : decode cX7_walk 98 = .ok (.aload_n 1, 1) := by decide +kernel
theorem dX7_walk_99 : decode cX7_walk 99 = .ok (.getfield 63, 3) := by decide +kernel
theorem dX7_walk_102 : decode cX7_walk 102 = .ok (.iload 8, 2) := by decide +kernel
theorem dX7_walk_104 : decode cX7_walk 104 = .ok (.iaload, 1) := by decide +kernel
theorem dX7_walk_105 : decode cX7_walk 105 = .ok (.iadd, 1) := by decide +kernel
theorem dX7_walk_106 : decode cX7_walk 106 = .ok (.iload 6, 2) := by decide +kernel
theorem dX7_walk_108 : decode cX7_walk 108 = .ok (.iconst 1, 1) := by decide +kernel
theorem dX7_walk_109 : decode cX7_walk 109 = .ok (.iadd, 1) := by decide +kernel
theorem dX7_walk_110 : decode cX7_walk 110 = .ok (.invokestatic 47, 3) := by decide +kernel
theorem dX7_walk_113 : decode cX7_walk 113 = .ok (.iinc 7 1, 3) := by decide +kernel
theorem dX7_walk_116 : decode cX7_walk 116 = .ok (.goto (-86), 3) := by decide +kernel
theorem dX7_walk_119 : decode cX7_walk 119 = .ok (.return_, 1) := by decide +kernel
theorem dX7_offer_0 : decode cX7_offer 0 = .ok (.aload_n 0, 1) := by decide +kernel
theorem dX7_offer_1 : decode cX7_offer 1 = .ok (.getfield 27, 3) := by decide +kernel
theorem dX7_offer_4 : decode cX7_offer 4 = .ok (.iconst 4, 1) := by decide +kernel
theorem dX7_offer_5 : decode cX7_offer 5 = .ok (.imul, 1) := by decide +kernel
theorem dX7_offer_6 : decode cX7_offer 6 = .ok (.istore 4, 2) := by decide +kernel
theorem dX7_offer_8 : decode cX7_offer 8 = .ok (.aload_n 0, 1) := by decide +kernel
theorem dX7_offer_9 : decode cX7_offer 9 = .ok (.getfield 9, 3) := by decide +kernel
theorem dX7_offer_12 : decode cX7_offer 12 = .ok (.aload_n 0, 1) := by decide +kernel
theorem dX7_offer_13 : decode cX7_offer 13 = .ok (.getfield 27, 3) := by decide +kernel
theorem dX7_offer_16 : decode cX7_offer 16 = .ok (.iaload, 1) := by decide +kernel
theorem dX7_offer_17 : decode cX7_offer 17 = .ok (.istore 5, 2) := by decide +kernel
theorem dX7_offer_19 : decode cX7_offer 19 = .ok (.iload 5, 2) := by decide +kernel
theorem dX7_offer_21 : decode cX7_offer 21 = .ok (.ifCond .le 129, 3) := by decide +kernel
theorem dX7_offer_24 : decode cX7_offer 24 = .ok (.iload_n 2, 1) := by decide +kernel
theorem dX7_offer_25 : decode cX7_offer 25 = .ok (.aload_n 0, 1) := by decide +kernel
theorem dX7_offer_26 : decode cX7_offer 26 = .ok (.getfield 21, 3) := by decide +kernel
theorem dX7_offer_29 : decode cX7_offer 29 = .ok (.iload 4, 2) := by decide +kernel
theorem dX7_offer_31 : decode cX7_offer 31 = .ok (.iload 5, 2) := by decide +kernel
theorem dX7_offer_33 : decode cX7_offer 33 = .ok (.iadd, 1) := by decide +kernel
theorem dX7_offer_34 : decode cX7_offer 34 = .ok (.iconst 1, 1) := by decide +kernel
theorem dX7_offer_35 : decode cX7_offer 35 = .ok (.isub, 1) := by decide +kernel
theorem dX7_offer_36 : decode cX7_offer 36 = .ok (.iaload, 1) := by decide +kernel
theorem dX7_offer_37 : decode cX7_offer 37 = .ok (.if_icmp .lt 35, 3) := by decide +kernel
theorem dX7_offer_40 : decode cX7_offer 40 = .ok (.iload_n 2, 1) := by decide +kernel
theorem dX7_offer_41 : decode cX7_offer 41 = .ok (.aload_n 0, 1) := by decide +kernel
theorem dX7_offer_42 : decode cX7_offer 42 = .ok (.getfield 21, 3) := by decide +kernel
theorem dX7_offer_45 : decode cX7_offer 45 = .ok (.iload 4, 2) := by decide +kernel
theorem dX7_offer_47 : decode cX7_offer 47 = .ok (.iload 5, 2) := by decide +kernel
theorem dX7_offer_49 : decode cX7_offer 49 = .ok (.iadd, 1) := by decide +kernel
theorem dX7_offer_50 : decode cX7_offer 50 = .ok (.iconst 1, 1) := by decide +kernel
theorem dX7_offer_51 : decode cX7_offer 51 = .ok (.isub, 1) := by decide +kernel
theorem dX7_offer_52 : decode cX7_offer 52 = .ok (.iaload, 1) := by decide +kernel
theorem dX7_offer_53 : decode cX7_offer 53 = .ok (.if_icmp .ne 97, 3) := by decide +kernel
theorem dX7_offer_56 : decode cX7_offer 56 = .ok (.iload_n 3, 1) := by decide +kernel
theorem dX7_offer_57 : decode cX7_offer 57 = .ok (.aload_n 0, 1) := by decide +kernel
theorem dX7_offer_58 : decode cX7_offer 58 = .ok (.getfield 24, 3) := by decide +kernel
theorem dX7_offer_61 : decode cX7_offer 61 = .ok (.iload 4, 2) := by decide +kernel
theorem dX7_offer_63 : decode cX7_offer 63 = .ok (.iload 5, 2) := by decide +kernel
theorem dX7_offer_65 : decode cX7_offer 65 = .ok (.iadd, 1) := by decide +kernel
theorem dX7_offer_66 : decode cX7_offer 66 = .ok (.iconst 1, 1) := by decide +kernel
theorem dX7_offer_67 : decode cX7_offer 67 = .ok (.isub, 1) := by decide +kernel
theorem dX7_offer_68 : decode cX7_offer 68 = .ok (.iaload, 1) := by decide +kernel
theorem dX7_offer_69 : decode cX7_offer 69 = .ok (.if_icmp .ge 81, 3) := by decide +kernel
theorem dX7_offer_72 : decode cX7_offer 72 = .ok (.iload 5, 2) := by decide +kernel
theorem dX7_offer_74 : decode cX7_offer 74 = .ok (.iconst 4, 1) := by decide +kernel
theorem dX7_offer_75 : decode cX7_offer 75 = .ok (.if_icmp .ge 69, 3) := by decide +kernel
theorem dX7_offer_78 : decode cX7_offer 78 = .ok (.aload_n 0, 1) := by decide +kernel
theorem dX7_offer_79 : decode cX7_offer 79 = .ok (.getfield 18, 3) := by decide +kernel
theorem dX7_offer_82 : decode cX7_offer 82 = .ok (.iload 4, 2) := by decide +kernel
theorem dX7_offer_84 : decode cX7_offer 84 = .ok (.iload 5, 2) := by decide +kernel
theorem dX7_offer_86 : decode cX7_offer 86 = .ok (.iadd, 1) := by decide +kernel
theorem dX7_offer_87 : decode cX7_offer 87 = .ok (.aload_n 0, 1) := by decide +kernel
theorem dX7_offer_88 : decode cX7_offer 88 = .ok (.getfield 18, 3) := by decide +kernel
theorem dX7_offer_91 : decode cX7_offer 91 = .ok (.iload 4, 2) := by decide +kernel
theorem dX7_offer_93 : decode cX7_offer 93 = .ok (.iload 5, 2) := by decide +kernel
theorem dX7_offer_95 : decode cX7_offer 95 = .ok (.iadd, 1) := by decide +kernel
theorem dX7_offer_96 : decode cX7_offer 96 = .ok (.iconst 1, 1) := by decide +kernel
theorem dX7_offer_97 : decode cX7_offer 97 = .ok (.isub, 1) := by decide +kernel
theorem dX7_offer_98 : decode cX7_offer 98 = .ok (.iaload, 1) := by decide +kernel
theorem dX7_offer_99 : decode cX7_offer 99 = .ok (.iastore, 1) := by decide +kernel
theorem dX7_offer_100 : decode cX7_offer 100 = .ok (.aload_n 0, 1) := by decide +kernel
theorem dX7_offer_101 : decode cX7_offer 101 = .ok (.getfield 21, 3) := by decide +kernel
theorem dX7_offer_104 : decode cX7_offer 104 = .ok (.iload 4, 2) := by decide +kernel
theorem dX7_offer_106 : decode cX7_offer 106 = .ok (.iload 5, 2) := by decide +kernel
theorem dX7_offer_108 : decode cX7_offer 108 = .ok (.iadd, 1) := by decide +kernel
theorem dX7_offer_109 : decode cX7_offer 109 = .ok (.aload_n 0, 1) := by decide +kernel
theorem dX7_offer_110 : decode cX7_offer 110 = .ok (.getfield 21, 3) := by decide +kernel
theorem dX7_offer_113 : decode cX7_offer 113 = .ok (.iload 4, 2) := by decide +kernel
theorem dX7_offer_115 : decode cX7_offer 115 = .ok (.iload 5, 2) := by decide +kernel
theorem dX7_offer_117 : decode cX7_offer 117 = .ok (.iadd, 1) := by decide +kernel
theorem dX7_offer_118 : decode cX7_offer 118 = .ok (.iconst 1, 1) := by decide +kernel
theorem dX7_offer_119 : decode cX7_offer 119 = .ok (.isub, 1) := by decide +kernel
theorem dX7_offer_120 : decode cX7_offer 120 = .ok (.iaload, 1) := by decide +kernel
theorem dX7_offer_121 : decode cX7_offer 121 = .ok (.iastore, 1) := by decide +kernel
theorem dX7_offer_122 : decode cX7_offer 122 = .ok (.aload_n 0, 1) := by decide +kernel
theorem dX7_offer_123 : decode cX7_offer 123 = .ok (.getfield 24, 3) := by decide +kernel
theorem dX7_offer_126 : decode cX7_offer 126 = .ok (.iload 4, 2) := by decide +kernel
theorem dX7_offer_128 : decode cX7_offer 128 = .ok (.iload 5, 2) := by decide +kernel
theorem dX7_offer_130 : decode cX7_offer 130 = .ok (.iadd, 1) := by decide +kernel
theorem dX7_offer_131 : decode cX7_offer 131 = .ok (.aload_n 0, 1) := by decide +kernel
theorem dX7_offer_132 : decode cX7_offer 132 = .ok (.getfield 24, 3) := by decide +kernel
theorem dX7_offer_135 : decode cX7_offer 135 = .ok (.iload 4, 2) := by decide +kernel
theorem dX7_offer_137 : decode cX7_offer 137 = .ok (.iload 5, 2) := by decide +kernel
theorem dX7_offer_139 : decode cX7_offer 139 = .ok (.iadd, 1) := by decide +kernel
theorem dX7_offer_140 : decode cX7_offer 140 = .ok (.iconst 1, 1) := by decide +kernel
theorem dX7_offer_141 : decode cX7_offer 141 = .ok (.isub, 1) := by decide +kernel
theorem dX7_offer_142 : decode cX7_offer 142 = .ok (.iaload, 1) := by decide +kernel
theorem dX7_offer_143 : decode cX7_offer 143 = .ok (.iastore, 1) := by decide +kernel
theorem dX7_offer_144 : decode cX7_offer 144 = .ok (.iinc 5 (-1), 3) := by decide +kernel
theorem dX7_offer_147 : decode cX7_offer 147 = .ok (.goto (-128), 3) := by decide +kernel
theorem dX7_offer_150 : decode cX7_offer 150 = .ok (.iload 5, 2) := by decide +kernel
theorem dX7_offer_152 : decode cX7_offer 152 = .ok (.iconst 4, 1) := by decide +kernel
theorem dX7_offer_153 : decode cX7_offer 153 = .ok (.if_icmp .ge 62, 3) := by decide +kernel
theorem dX7_offer_156 : decode cX7_offer 156 = .ok (.aload_n 0, 1) := by decide +kernel
theorem dX7_offer_157 : decode cX7_offer 157 = .ok (.getfield 18, 3) := by decide +kernel
theorem dX7_offer_160 : decode cX7_offer 160 = .ok (.iload 4, 2) := by decide +kernel
theorem dX7_offer_162 : decode cX7_offer 162 = .ok (.iload 5, 2) := by decide +kernel
theorem dX7_offer_164 : decode cX7_offer 164 = .ok (.iadd, 1) := by decide +kernel
theorem dX7_offer_165 : decode cX7_offer 165 = .ok (.iload_n 1, 1) := by decide +kernel
theorem dX7_offer_166 : decode cX7_offer 166 = .ok (.iastore, 1) := by decide +kernel
theorem dX7_offer_167 : decode cX7_offer 167 = .ok (.aload_n 0, 1) := by decide +kernel
theorem dX7_offer_168 : decode cX7_offer 168 = .ok (.getfield 21, 3) := by decide +kernel
theorem dX7_offer_171 : decode cX7_offer 171 = .ok (.iload 4, 2) := by decide +kernel
theorem dX7_offer_173 : decode cX7_offer 173 = .ok (.iload 5, 2) := by decide +kernel
theorem dX7_offer_175 : decode cX7_offer 175 = .ok (.iadd, 1) := by decide +kernel
theorem dX7_offer_176 : decode cX7_offer 176 = .ok (.iload_n 2, 1) := by decide +kernel
theorem dX7_offer_177 : decode cX7_offer 177 = .ok (.iastore, 1) := by decide +kernel
theorem dX7_offer_178 : decode cX7_offer 178 = .ok (.aload_n 0, 1) := by decide +kernel
theorem dX7_offer_179 : decode cX7_offer 179 = .ok (.getfield 24, 3) := by decide +kernel
theorem dX7_offer_182 : decode cX7_offer 182 = .ok (.iload 4, 2) := by decide +kernel
theorem dX7_offer_184 : decode cX7_offer 184 = .ok (.iload 5, 2) := by decide +kernel
theorem dX7_offer_186 : decode cX7_offer 186 = .ok (.iadd, 1) := by decide +kernel
theorem dX7_offer_187 : decode cX7_offer 187 = .ok (.iload_n 3, 1) := by decide +kernel
theorem dX7_offer_188 : decode cX7_offer 188 = .ok (.iastore, 1) := by decide +kernel
theorem dX7_offer_189 : decode cX7_offer 189 = .ok (.aload_n 0, 1) := by decide +kernel
theorem dX7_offer_190 : decode cX7_offer 190 = .ok (.getfield 9, 3) := by decide +kernel
theorem dX7_offer_193 : decode cX7_offer 193 = .ok (.aload_n 0, 1) := by decide +kernel
theorem dX7_offer_194 : decode cX7_offer 194 = .ok (.getfield 27, 3) := by decide +kernel
theorem dX7_offer_197 : decode cX7_offer 197 = .ok (.iaload, 1) := by decide +kernel
theorem dX7_offer_198 : decode cX7_offer 198 = .ok (.iconst 4, 1) := by decide +kernel
theorem dX7_offer_199 : decode cX7_offer 199 = .ok (.if_icmp .ge 16, 3) := by decide +kernel
theorem dX7_offer_202 : decode cX7_offer 202 = .ok (.aload_n 0, 1) := by decide +kernel
theorem dX7_offer_203 : decode cX7_offer 203 = .ok (.getfield 9, 3) := by decide +kernel
theorem dX7_offer_206 : decode cX7_offer 206 = .ok (.aload_n 0, 1) := by decide +kernel
theorem dX7_offer_207 : decode cX7_offer 207 = .ok (.getfield 27, 3) := by decide +kernel
theorem dX7_offer_210 : decode cX7_offer 210 = .ok (.dup2, 1) := by decide +kernel
theorem dX7_offer_211 : decode cX7_offer 211 = .ok (.iaload, 1) := by decide +kernel
theorem dX7_offer_212 : decode cX7_offer 212 = .ok (.iconst 1, 1) := by decide +kernel
theorem dX7_offer_213 : decode cX7_offer 213 = .ok (.iadd, 1) := by decide +kernel
theorem dX7_offer_214 : decode cX7_offer 214 = .ok (.iastore, 1) := by decide +kernel
theorem dX7_offer_215 : decode cX7_offer 215 = .ok (.return_, 1) := by decide +kernel
