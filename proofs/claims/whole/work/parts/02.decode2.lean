theorem dX4_hasAllLengths_30 : decode cX4_hasAllLengths 30 = .ok (.iinc 1 1, 3) := by decide +kernel
theorem dX4_hasAllLengths_33 : decode cX4_hasAllLengths 33 = .ok (.goto (-31), 3) := by decide +kernel
theorem dX4_hasAllLengths_36 : decode cX4_hasAllLengths 36 = .ok (.iconst 1, 1) := by decide +kernel
theorem dX4_hasAllLengths_37 : decode cX4_hasAllLengths 37 = .ok (.ireturn, 1) := by decide +kernel
theorem dX4_nibble_0 : decode cX4_nibble 0 = .ok (.iload_n 0, 1) := by decide +kernel
theorem dX4_nibble_1 : decode cX4_nibble 1 = .ok (.iconst 4, 1) := by decide +kernel
theorem dX4_nibble_2 : decode cX4_nibble 2 = .ok (.iload_n 1, 1) := by decide +kernel
theorem dX4_nibble_3 : decode cX4_nibble 3 = .ok (.imul, 1) := by decide +kernel
theorem dX4_nibble_4 : decode cX4_nibble 4 = .ok (.iushr, 1) := by decide +kernel
theorem dX4_nibble_5 : decode cX4_nibble 5 = .ok (.bipush 15, 2) := by decide +kernel
theorem dX4_nibble_7 : decode cX4_nibble 7 = .ok (.iand, 1) := by decide +kernel
theorem dX4_nibble_8 : decode cX4_nibble 8 = .ok (.ireturn, 1) := by decide +kernel
theorem dX5_init_0 : decode cX5_init 0 = .ok (.aload_n 0, 1) := by decide +kernel
theorem dX5_init_1 : decode cX5_init 1 = .ok (.invokespecial 1, 3) := by decide +kernel
theorem dX5_init_4 : decode cX5_init 4 = .ok (.return_, 1) := by decide +kernel
theorem dX5_put_0 : decode cX5_put 0 = .ok (.aload_n 0, 1) := by decide +kernel
theorem dX5_put_1 : decode cX5_put 1 = .ok (.iconst 1, 1) := by decide +kernel
theorem dX5_put_2 : decode cX5_put 2 = .ok (.putfield 7, 3) := by decide +kernel
theorem dX5_put_5 : decode cX5_put 5 = .ok (.aload_n 0, 1) := by decide +kernel
theorem dX5_put_6 : decode cX5_put 6 = .ok (.lload_n 1, 1) := by decide +kernel
theorem dX5_put_7 : decode cX5_put 7 = .ok (.putfield 13, 3) := by decide +kernel
theorem dX5_put_10 : decode cX5_put 10 = .ok (.aload_n 0, 1) := by decide +kernel
theorem dX5_put_11 : decode cX5_put 11 = .ok (.lload_n 3, 1) := by decide +kernel
theorem dX5_put_12 : decode cX5_put 12 = .ok (.putfield 17, 3) := by decide +kernel
theorem dX5_put_15 : decode cX5_put 15 = .ok (.return_, 1) := by decide +kernel
theorem dX6_init_0 : decode cX6_init 0 = .ok (.aload_n 0, 1) := by decide +kernel
theorem dX6_init_1 : decode cX6_init 1 = .ok (.invokespecial 3, 3) := by decide +kernel
theorem dX6_init_4 : decode cX6_init 4 = .ok (.aload_n 0, 1) := by decide +kernel
theorem dX6_init_5 : decode cX6_init 5 = .ok (.bipush 8, 2) := by decide +kernel
theorem dX6_init_7 : decode cX6_init 7 = .ok (.newarray .int, 2) := by decide +kernel
theorem dX6_init_9 : decode cX6_init 9 = .ok (.putfield 9, 3) := by decide +kernel
theorem dX6_init_12 : decode cX6_init 12 = .ok (.aload_n 0, 1) := by decide +kernel
theorem dX6_init_13 : decode cX6_init 13 = .ok (.bipush 9, 2) := by decide +kernel
theorem dX6_init_15 : decode cX6_init 15 = .ok (.newarray .long, 2) := by decide +kernel
theorem dX6_init_17 : decode cX6_init 17 = .ok (.putfield 15, 3) := by decide +kernel
theorem dX6_init_20 : decode cX6_init 20 = .ok (.aload_n 0, 1) := by decide +kernel
theorem dX6_init_21 : decode cX6_init 21 = .ok (.bipush 9, 2) := by decide +kernel
theorem dX6_init_23 : decode cX6_init 23 = .ok (.newarray .long, 2) := by decide +kernel
theorem dX6_init_25 : decode cX6_init 25 = .ok (.putfield 19, 3) := by decide +kernel
theorem dX6_init_28 : decode cX6_init 28 = .ok (.aload_n 0, 1) := by decide +kernel
theorem dX6_init_29 : decode cX6_init 29 = .ok (.bipush 8, 2) := by decide +kernel
theorem dX6_init_31 : decode cX6_init 31 = .ok (.newarray .long, 2) := by decide +kernel
theorem dX6_init_33 : decode cX6_init 33 = .ok (.putfield 22, 3) := by decide +kernel
theorem dX6_init_36 : decode cX6_init 36 = .ok (.aload_n 0, 1) := by decide +kernel
theorem dX6_init_37 : decode cX6_init 37 = .ok (.bipush 8, 2) := by decide +kernel
theorem dX6_init_39 : decode cX6_init 39 = .ok (.newarray .long, 2) := by decide +kernel
theorem dX6_init_41 : decode cX6_init 41 = .ok (.putfield 25, 3) := by decide +kernel
theorem dX6_init_44 : decode cX6_init 44 = .ok (.return_, 1) := by decide +kernel
theorem dX6_draw_0 : decode cX6_draw 0 = .ok (.aload_n 0, 1) := by decide +kernel
theorem dX6_draw_1 : decode cX6_draw 1 = .ok (.aload_n 1, 1) := by decide +kernel
theorem dX6_draw_2 : decode cX6_draw 2 = .ok (.getfield 28, 3) := by decide +kernel
theorem dX6_draw_5 : decode cX6_draw 5 = .ok (.putfield 34, 3) := by decide +kernel
theorem dX6_draw_8 : decode cX6_draw 8 = .ok (.aload_n 0, 1) := by decide +kernel
theorem dX6_draw_9 : decode cX6_draw 9 = .ok (.aload_n 1, 1) := by decide +kernel
theorem dX6_draw_10 : decode cX6_draw 10 = .ok (.getfield 35, 3) := by decide +kernel
theorem dX6_draw_13 : decode cX6_draw 13 = .ok (.putfield 38, 3) := by decide +kernel
theorem dX6_draw_16 : decode cX6_draw 16 = .ok (.lconst 0, 1) := by decide +kernel
theorem dX6_draw_17 : decode cX6_draw 17 = .ok (.lstore 4, 2) := by decide +kernel
theorem dX6_draw_19 : decode cX6_draw 19 = .ok (.lconst 0, 1) := by decide +kernel
theorem dX6_draw_20 : decode cX6_draw 20 = .ok (.lstore 6, 2) := by decide +kernel
theorem dX6_draw_22 : decode cX6_draw 22 = .ok (.iconst 0, 1) := by decide +kernel
theorem dX6_draw_23 : decode cX6_draw 23 = .ok (.istore 8, 2) := by decide +kernel
theorem dX6_draw_25 : decode cX6_draw 25 = .ok (.iload 8, 2) := by decide +kernel
theorem dX6_draw_27 : decode cX6_draw 27 = .ok (.aload_n 0, 1) := by decide +kernel
theorem dX6_draw_28 : decode cX6_draw 28 = .ok (.getfield 34, 3) := by decide +kernel
theorem dX6_draw_31 : decode cX6_draw 31 = .ok (.if_icmp .ge 59, 3) := by decide +kernel
theorem dX6_draw_34 : decode cX6_draw 34 = .ok (.aload_n 3, 1) := by decide +kernel
theorem dX6_draw_35 : decode cX6_draw 35 = .ok (.iload 8, 2) := by decide +kernel
theorem dX6_draw_37 : decode cX6_draw 37 = .ok (.iaload, 1) := by decide +kernel
theorem dX6_draw_38 : decode cX6_draw 38 = .ok (.istore 9, 2) := by decide +kernel
theorem dX6_draw_40 : decode cX6_draw 40 = .ok (.aload_n 0, 1) := by decide +kernel
theorem dX6_draw_41 : decode cX6_draw 41 = .ok (.getfield 22, 3) := by decide +kernel
theorem dX6_draw_44 : decode cX6_draw 44 = .ok (.iload 9, 2) := by decide +kernel
theorem dX6_draw_46 : decode cX6_draw 46 = .ok (.lload 4, 2) := by decide +kernel
theorem dX6_draw_48 : decode cX6_draw 48 = .ok (.lastore, 1) := by decide +kernel
theorem dX6_draw_49 : decode cX6_draw 49 = .ok (.aload_n 0, 1) := by decide +kernel
theorem dX6_draw_50 : decode cX6_draw 50 = .ok (.getfield 25, 3) := by decide +kernel
theorem dX6_draw_53 : decode cX6_draw 53 = .ok (.iload 9, 2) := by decide +kernel
theorem dX6_draw_55 : decode cX6_draw 55 = .ok (.lload 6, 2) := by decide +kernel
theorem dX6_draw_57 : decode cX6_draw 57 = .ok (.lastore, 1) := by decide +kernel
theorem dX6_draw_58 : decode cX6_draw 58 = .ok (.lload 4, 2) := by decide +kernel
theorem dX6_draw_60 : decode cX6_draw 60 = .ok (.aload_n 1, 1) := by decide +kernel
theorem dX6_draw_61 : decode cX6_draw 61 = .ok (.getfield 39, 3) := by decide +kernel
theorem dX6_draw_64 : decode cX6_draw 64 = .ok (.iload 9, 2) := by decide +kernel
theorem dX6_draw_66 : decode cX6_draw 66 = .ok (.iaload, 1) := by decide +kernel
theorem dX6_draw_67 : decode cX6_draw 67 = .ok (.i2l, 1) := by decide +kernel
theorem dX6_draw_68 : decode cX6_draw 68 = .ok (.ladd, 1) := by decide +kernel
theorem dX6_draw_69 : decode cX6_draw 69 = .ok (.lstore 4, 2) := by decide +kernel
theorem dX6_draw_71 : decode cX6_draw 71 = .ok (.lload 6, 2) := by decide +kernel
theorem dX6_draw_73 : decode cX6_draw 73 = .ok (.aload_n 1, 1) := by decide +kernel
theorem dX6_draw_74 : decode cX6_draw 74 = .ok (.getfield 42, 3) := by decide +kernel
theorem dX6_draw_77 : decode cX6_draw 77 = .ok (.iload 9, 2) := by decide +kernel
theorem dX6_draw_79 : decode cX6_draw 79 = .ok (.iaload, 1) := by decide +kernel
theorem dX6_draw_80 : decode cX6_draw 80 = .ok (.i2l, 1) := by decide +kernel
theorem dX6_draw_81 : decode cX6_draw 81 = .ok (.ladd, 1) := by decide +kernel
theorem dX6_draw_82 : decode cX6_draw 82 = .ok (.lstore 6, 2) := by decide +kernel
theorem dX6_draw_84 : decode cX6_draw 84 = .ok (.iinc 8 1, 3) := by decide +kernel
theorem dX6_draw_87 : decode cX6_draw 87 = .ok (.goto (-62), 3) := by decide +kernel
theorem dX6_draw_90 : decode cX6_draw 90 = .ok (.lconst 0, 1) := by decide +kernel
theorem dX6_draw_91 : decode cX6_draw 91 = .ok (.lstore 4, 2) := by decide +kernel
theorem dX6_draw_93 : decode cX6_draw 93 = .ok (.lconst 0, 1) := by decide +kernel
theorem dX6_draw_94 : decode cX6_draw 94 = .ok (.lstore 6, 2) := by decide +kernel
theorem dX6_draw_96 : decode cX6_draw 96 = .ok (.iconst 0, 1) := by decide +kernel
theorem dX6_draw_97 : decode cX6_draw 97 = .ok (.istore 8, 2) := by decide +kernel
theorem dX6_draw_99 : decode cX6_draw 99 = .ok (.iload 8, 2) := by decide +kernel
theorem dX6_draw_101 : decode cX6_draw 101 = .ok (.aload_n 0, 1) := by decide +kernel
theorem dX6_draw_102 : decode cX6_draw 102 = .ok (.getfield 34, 3) := by decide +kernel
theorem dX6_draw_105 : decode cX6_draw 105 = .ok (.if_icmp .ge 92, 3) := by decide +kernel
theorem dX6_draw_108 : decode cX6_draw 108 = .ok (.aload_n 2, 1) := by decide +kernel
theorem dX6_draw_109 : decode cX6_draw 109 = .ok (.iload 8, 2) := by decide +kernel
theorem dX6_draw_111 : decode cX6_draw 111 = .ok (.iaload, 1) := by decide +kernel
theorem dX6_draw_112 : decode cX6_draw 112 = .ok (.istore 9, 2) := by decide +kernel
theorem dX6_draw_114 : decode cX6_draw 114 = .ok (.aload_n 0, 1) := by decide +kernel
theorem dX6_draw_115 : decode cX6_draw 115 = .ok (.getfield 9, 3) := by decide +kernel
theorem dX6_draw_118 : decode cX6_draw 118 = .ok (.iload 8, 2) := by decide +kernel
theorem dX6_draw_120 : decode cX6_draw 120 = .ok (.iload 9, 2) := by decide +kernel
theorem dX6_draw_122 : decode cX6_draw 122 = .ok (.iastore, 1) := by decide +kernel
theorem dX6_draw_123 : decode cX6_draw 123 = .ok (.aload_n 0, 1) := by decide +kernel
theorem dX6_draw_124 : decode cX6_draw 124 = .ok (.getfield 15, 3) := by decide +kernel
theorem dX6_draw_127 : decode cX6_draw 127 = .ok (.iload 8, 2) := by decide +kernel
theorem dX6_draw_129 : decode cX6_draw 129 = .ok (.lload 4, 2) := by decide +kernel
theorem dX6_draw_131 : decode cX6_draw 131 = .ok (.lastore, 1) := by decide +kernel
theorem dX6_draw_132 : decode cX6_draw 132 = .ok (.aload_n 0, 1) := by decide +kernel
theorem dX6_draw_133 : decode cX6_draw 133 = .ok (.getfield 19, 3) := by decide +kernel
theorem dX6_draw_136 : decode cX6_draw 136 = .ok (.iload 8, 2) := by decide +kernel
theorem dX6_draw_138 : decode cX6_draw 138 = .ok (.lload 6, 2) := by decide +kernel
theorem dX6_draw_140 : decode cX6_draw 140 = .ok (.lastore, 1) := by decide +kernel
theorem dX6_draw_141 : decode cX6_draw 141 = .ok (.aload_n 0, 1) := by decide +kernel
theorem dX6_draw_142 : decode cX6_draw 142 = .ok (.getfield 22, 3) := by decide +kernel
theorem dX6_draw_145 : decode cX6_draw 145 = .ok (.iload 9, 2) := by decide +kernel
theorem dX6_draw_147 : decode cX6_draw 147 = .ok (.dup2, 1) := by decide +kernel
theorem dX6_draw_148 : decode cX6_draw 148 = .ok (.laload, 1) := by decide +kernel
theorem dX6_draw_149 : decode cX6_draw 149 = .ok (.lload 4, 2) := by decide +kernel
theorem dX6_draw_151 : decode cX6_draw 151 = .ok (.lsub, 1) := by decide +kernel
theorem dX6_draw_152 : decode cX6_draw 152 = .ok (.lastore, 1) := by decide +kernel
theorem dX6_draw_153 : decode cX6_draw 153 = .ok (.aload_n 0, 1) := by decide +kernel
theorem dX6_draw_154 : decode cX6_draw 154 = .ok (.getfield 25, 3) := by decide +kernel
theorem dX6_draw_157 : decode cX6_draw 157 = .ok (.iload 9, 2) := by decide +kernel
theorem dX6_draw_159 : decode cX6_draw 159 = .ok (.dup2, 1) := by decide +kernel
theorem dX6_draw_160 : decode cX6_draw 160 = .ok (.laload, 1) := by decide +kernel
theorem dX6_draw_161 : decode cX6_draw 161 = .ok (.lload 6, 2) := by decide +kernel
theorem dX6_draw_163 : decode cX6_draw 163 = .ok (.lsub, 1) := by decide +kernel
theorem dX6_draw_164 : decode cX6_draw 164 = .ok (.lastore, 1) := by decide +kernel
theorem dX6_draw_165 : decode cX6_draw 165 = .ok (.lload 4, 2) := by decide +kernel
theorem dX6_draw_167 : decode cX6_draw 167 = .ok (.aload_n 1, 1) := by decide +kernel
theorem dX6_draw_168 : decode cX6_draw 168 = .ok (.getfield 39, 3) := by decide +kernel
theorem dX6_draw_171 : decode cX6_draw 171 = .ok (.iload 9, 2) := by decide +kernel
theorem dX6_draw_173 : decode cX6_draw 173 = .ok (.iaload, 1) := by decide +kernel
theorem dX6_draw_174 : decode cX6_draw 174 = .ok (.i2l, 1) := by decide +kernel
theorem dX6_draw_175 : decode cX6_draw 175 = .ok (.ladd, 1) := by decide +kernel
theorem dX6_draw_176 : decode cX6_draw 176 = .ok (.lstore 4, 2) := by decide +kernel
theorem dX6_draw_178 : decode cX6_draw 178 = .ok (.lload 6, 2) := by decide +kernel
theorem dX6_draw_180 : decode cX6_draw 180 = .ok (.aload_n 1, 1) := by decide +kernel
theorem dX6_draw_181 : decode cX6_draw 181 = .ok (.getfield 42, 3) := by decide +kernel
theorem dX6_draw_184 : decode cX6_draw 184 = .ok (.iload 9, 2) := by decide +kernel
theorem dX6_draw_186 : decode cX6_draw 186 = .ok (.iaload, 1) := by decide +kernel
theorem dX6_draw_187 : decode cX6_draw 187 = .ok (.i2l, 1) := by decide +kernel
theorem dX6_draw_188 : decode cX6_draw 188 = .ok (.ladd, 1) := by decide +kernel
theorem dX6_draw_189 : decode cX6_draw 189 = .ok (.lstore 6, 2) := by decide +kernel
theorem dX6_draw_191 : decode cX6_draw 191 = .ok (.iinc 8 1, 3) := by decide +kernel
theorem dX6_draw_194 : decode cX6_draw 194 = .ok (.goto (-95), 3) := by decide +kernel
theorem dX6_draw_197 : decode cX6_draw 197 = .ok (.aload_n 0, 1) := by decide +kernel
theorem dX6_draw_198 : decode cX6_draw 198 = .ok (.getfield 15, 3) := by decide +kernel
theorem dX6_draw_201 : decode cX6_draw 201 = .ok (.aload_n 0, 1) := by decide +kernel
theorem dX6_draw_202 : decode cX6_draw 202 = .ok (.getfield 34, 3) := by decide +kernel
theorem dX6_draw_205 : decode cX6_draw 205 = .ok (.lload 4, 2) := by decide +kernel
theorem dX6_draw_207 : decode cX6_draw 207 = .ok (.lastore, 1) := by decide +kernel
theorem dX6_draw_208 : decode cX6_draw 208 = .ok (.aload_n 0, 1) := by decide +kernel
theorem dX6_draw_209 : decode cX6_draw 209 = .ok (.getfield 19, 3) := by decide +kernel
theorem dX6_draw_212 : decode cX6_draw 212 = .ok (.aload_n 0, 1) := by decide +kernel
theorem dX6_draw_213 : decode cX6_draw 213 = .ok (.getfield 34, 3) := by decide +kernel
theorem dX6_draw_216 : decode cX6_draw 216 = .ok (.lload 6, 2) := by decide +kernel
theorem dX6_draw_218 : decode cX6_draw 218 = .ok (.lastore, 1) := by decide +kernel
theorem dX6_draw_219 : decode cX6_draw 219 = .ok (.return_, 1) := by decide +kernel
theorem dX6_covers_0 : decode cX6_covers 0 = .ok (.lload_n 1, 1) := by decide +kernel
theorem dX6_covers_1 : decode cX6_covers 1 = .ok (.lload_n 3, 1) := by decide +kernel
theorem dX6_covers_2 : decode cX6_covers 2 = .ok (.aload_n 0, 1) := by decide +kernel
theorem dX6_covers_3 : decode cX6_covers 3 = .ok (.getfield 38, 3) := by decide +kernel
theorem dX6_covers_6 : decode cX6_covers 6 = .ok (.invokestatic 45, 3) := by decide +kernel
theorem dX6_covers_9 : decode cX6_covers 9 = .ok (.ifCond .lt 20, 3) := by decide +kernel
theorem dX6_covers_12 : decode cX6_covers 12 = .ok (.aload_n 0, 1) := by decide +kernel
theorem dX6_covers_13 : decode cX6_covers 13 = .ok (.lload_n 1, 1) := by decide +kernel
theorem dX6_covers_14 : decode cX6_covers 14 = .ok (.lload_n 3, 1) := by decide +kernel
theorem dX6_covers_15 : decode cX6_covers 15 = .ok (.aload_n 0, 1) := by decide +kernel
theorem dX6_covers_16 : decode cX6_covers 16 = .ok (.getfield 34, 3) := by decide +kernel
theorem dX6_covers_19 : decode cX6_covers 19 = .ok (.invokevirtual 49, 3) := by decide +kernel
theorem dX6_covers_22 : decode cX6_covers 22 = .ok (.ifCond .eq 7, 3) := by decide +kernel
theorem dX6_covers_25 : decode cX6_covers 25 = .ok (.iconst 1, 1) := by decide +kernel
theorem dX6_covers_26 : decode cX6_covers 26 = .ok (.goto 4, 3) := by decide +kernel
theorem dX6_covers_29 : decode cX6_covers 29 = .ok (.iconst 0, 1) := by decide +kernel
theorem dX6_covers_30 : decode cX6_covers 30 = .ok (.ireturn, 1) := by decide +kernel
theorem dX6_spanAt_0 : decode cX6_spanAt 0 = .ok (.iconst 0, 1) := by decide +kernel
theorem dX6_spanAt_1 : decode cX6_spanAt 1 = .ok (.istore_n 2, 1) := by decide +kernel
theorem dX6_spanAt_2 : decode cX6_spanAt 2 = .ok (.iload_n 2, 1) := by decide +kernel
theorem dX6_spanAt_3 : decode cX6_spanAt 3 = .ok (.aload_n 0, 1) := by decide +kernel
theorem dX6_spanAt_4 : decode cX6_spanAt 4 = .ok (.getfield 34, 3) := by decide +kernel
theorem dX6_spanAt_7 : decode cX6_spanAt 7 = .ok (.iconst 1, 1) := by decide +kernel
theorem dX6_spanAt_8 : decode cX6_spanAt 8 = .ok (.isub, 1) := by decide +kernel
theorem dX6_spanAt_9 : decode cX6_spanAt 9 = .ok (.if_icmp .ge 27, 3) := by decide +kernel
theorem dX6_spanAt_12 : decode cX6_spanAt 12 = .ok (.aload_n 0, 1) := by decide +kernel
theorem dX6_spanAt_13 : decode cX6_spanAt 13 = .ok (.aload_n 1, 1) := by decide +kernel
theorem dX6_spanAt_14 : decode cX6_spanAt 14 = .ok (.getfield 53, 3) := by decide +kernel
theorem dX6_spanAt_17 : decode cX6_spanAt 17 = .ok (.aload_n 1, 1) := by decide +kernel
theorem dX6_spanAt_18 : decode cX6_spanAt 18 = .ok (.getfield 59, 3) := by decide +kernel
theorem dX6_spanAt_21 : decode cX6_spanAt 21 = .ok (.iload_n 2, 1) := by decide +kernel
theorem dX6_spanAt_22 : decode cX6_spanAt 22 = .ok (.iconst 1, 1) := by decide +kernel
theorem dX6_spanAt_23 : decode cX6_spanAt 23 = .ok (.iadd, 1) := by decide +kernel
theorem dX6_spanAt_24 : decode cX6_spanAt 24 = .ok (.invokevirtual 49, 3) := by decide +kernel
theorem dX6_spanAt_27 : decode cX6_spanAt 27 = .ok (.ifCond .ne 9, 3) := by decide +kernel
theorem dX6_spanAt_30 : decode cX6_spanAt 30 = .ok (.iinc 2 1, 3) := by decide +kernel
theorem dX6_spanAt_33 : decode cX6_spanAt 33 = .ok (.goto (-31), 3) := by decide +kernel
theorem dX6_spanAt_36 : decode cX6_spanAt 36 = .ok (.aload_n 0, 1) := by decide +kernel
theorem dX6_spanAt_37 : decode cX6_spanAt 37 = .ok (.getfield 9, 3) := by decide +kernel
theorem dX6_spanAt_40 : decode cX6_spanAt 40 = .ok (.iload_n 2, 1) := by decide +kernel
theorem dX6_spanAt_41 : decode cX6_spanAt 41 = .ok (.iaload, 1) := by decide +kernel
theorem dX6_spanAt_42 : decode cX6_spanAt 42 = .ok (.ireturn, 1) := by decide +kernel
theorem dX6_carry_0 : decode cX6_carry 0 = .ok (.aload_n 0, 1) := by decide +kernel
theorem dX6_carry_1 : decode cX6_carry 1 = .ok (.aload_n 1, 1) := by decide +kernel
theorem dX6_carry_2 : decode cX6_carry 2 = .ok (.aload_n 0, 1) := by decide +kernel
theorem dX6_carry_3 : decode cX6_carry 3 = .ok (.aload_n 1, 1) := by decide +kernel
theorem dX6_carry_4 : decode cX6_carry 4 = .ok (.invokevirtual 62, 3) := by decide +kernel
theorem dX6_carry_7 : decode cX6_carry 7 = .ok (.invokevirtual 66, 3) := by decide +kernel
theorem dX6_carry_10 : decode cX6_carry 10 = .ok (.ireturn, 1) := by decide +kernel
theorem dX6_shift_0 : decode cX6_shift 0 = .ok (.aload_n 1, 1) := by decide +kernel
theorem dX6_shift_1 : decode cX6_shift 1 = .ok (.dup, 1) := by decide +kernel
theorem dX6_shift_2 : decode cX6_shift 2 = .ok (.getfield 53, 3) := by decide +kernel
theorem dX6_shift_5 : decode cX6_shift 5 = .ok (.aload_n 0, 1) := by decide +kernel
theorem dX6_shift_6 : decode cX6_shift 6 = .ok (.getfield 22, 3) := by decide +kernel
theorem dX6_shift_9 : decode cX6_shift 9 = .ok (.iload_n 2, 1) := by decide +kernel
theorem dX6_shift_10 : decode cX6_shift 10 = .ok (.laload, 1) := by decide +kernel
theorem dX6_shift_11 : decode cX6_shift 11 = .ok (.ladd, 1) := by decide +kernel
theorem dX6_shift_12 : decode cX6_shift 12 = .ok (.putfield 53, 3) := by decide +kernel
theorem dX6_shift_15 : decode cX6_shift 15 = .ok (.aload_n 1, 1) := by decide +kernel
theorem dX6_shift_16 : decode cX6_shift 16 = .ok (.dup, 1) := by decide +kernel
theorem dX6_shift_17 : decode cX6_shift 17 = .ok (.getfield 59, 3) := by decide +kernel
theorem dX6_shift_20 : decode cX6_shift 20 = .ok (.aload_n 0, 1) := by decide +kernel
theorem dX6_shift_21 : decode cX6_shift 21 = .ok (.getfield 25, 3) := by decide +kernel
theorem dX6_shift_24 : decode cX6_shift 24 = .ok (.iload_n 2, 1) := by decide +kernel
theorem dX6_shift_25 : decode cX6_shift 25 = .ok (.laload, 1) := by decide +kernel
theorem dX6_shift_26 : decode cX6_shift 26 = .ok (.ladd, 1) := by decide +kernel
theorem dX6_shift_27 : decode cX6_shift 27 = .ok (.putfield 59, 3) := by decide +kernel
theorem dX6_shift_30 : decode cX6_shift 30 = .ok (.aload_n 1, 1) := by decide +kernel
theorem dX6_shift_31 : decode cX6_shift 31 = .ok (.getfield 53, 3) := by decide +kernel
theorem dX6_shift_34 : decode cX6_shift 34 = .ok (.ldc 70, 2) := by decide +kernel
theorem dX6_shift_36 : decode cX6_shift 36 = .ok (.invokestatic 71, 3) := by decide +kernel
theorem dX6_shift_39 : decode cX6_shift 39 = .ok (.ifCond .eq 19, 3) := by decide +kernel
theorem dX6_shift_42 : decode cX6_shift 42 = .ok (.aload_n 1, 1) := by decide +kernel
theorem dX6_shift_43 : decode cX6_shift 43 = .ok (.getfield 59, 3) := by decide +kernel
theorem dX6_shift_46 : decode cX6_shift 46 = .ok (.ldc 70, 2) := by decide +kernel
theorem dX6_shift_48 : decode cX6_shift 48 = .ok (.invokestatic 71, 3) := by decide +kernel
theorem dX6_shift_51 : decode cX6_shift 51 = .ok (.ifCond .eq 7, 3) := by decide +kernel
theorem dX6_shift_54 : decode cX6_shift 54 = .ok (.iconst 1, 1) := by decide +kernel
theorem dX6_shift_55 : decode cX6_shift 55 = .ok (.goto 4, 3) := by decide +kernel
theorem dX6_shift_58 : decode cX6_shift 58 = .ok (.iconst 0, 1) := by decide +kernel
theorem dX6_shift_59 : decode cX6_shift 59 = .ok (.ireturn, 1) := by decide +kernel
theorem dX6_isLeftEnd_0 : decode cX6_isLeftEnd 0 = .ok (.iconst 0, 1) := by decide +kernel
theorem dX6_isLeftEnd_1 : decode cX6_isLeftEnd 1 = .ok (.istore_n 2, 1) := by decide +kernel
theorem dX6_isLeftEnd_2 : decode cX6_isLeftEnd 2 = .ok (.iload_n 2, 1) := by decide +kernel
theorem dX6_isLeftEnd_3 : decode cX6_isLeftEnd 3 = .ok (.aload_n 0, 1) := by decide +kernel
theorem dX6_isLeftEnd_4 : decode cX6_isLeftEnd 4 = .ok (.getfield 34, 3) := by decide +kernel
theorem dX6_isLeftEnd_7 : decode cX6_isLeftEnd 7 = .ok (.if_icmp .ge 39, 3) := by decide +kernel
theorem dX6_isLeftEnd_10 : decode cX6_isLeftEnd 10 = .ok (.aload_n 0, 1) := by decide +kernel
theorem dX6_isLeftEnd_11 : decode cX6_isLeftEnd 11 = .ok (.getfield 15, 3) := by decide +kernel
theorem dX6_isLeftEnd_14 : decode cX6_isLeftEnd 14 = .ok (.iload_n 2, 1) := by decide +kernel
theorem dX6_isLeftEnd_15 : decode cX6_isLeftEnd 15 = .ok (.laload, 1) := by decide +kernel
theorem dX6_isLeftEnd_16 : decode cX6_isLeftEnd 16 = .ok (.aload_n 1, 1) := by decide +kernel
theorem dX6_isLeftEnd_17 : decode cX6_isLeftEnd 17 = .ok (.getfield 53, 3) := by decide +kernel
theorem dX6_isLeftEnd_20 : decode cX6_isLeftEnd 20 = .ok (.lcmp, 1) := by decide +kernel
theorem dX6_isLeftEnd_21 : decode cX6_isLeftEnd 21 = .ok (.ifCond .ne 19, 3) := by decide +kernel
theorem dX6_isLeftEnd_24 : decode cX6_isLeftEnd 24 = .ok (.aload_n 0, 1) := by decide +kernel
theorem dX6_isLeftEnd_25 : decode cX6_isLeftEnd 25 = .ok (.getfield 19, 3) := by decide +kernel
theorem dX6_isLeftEnd_28 : decode cX6_isLeftEnd 28 = .ok (.iload_n 2, 1) := by decide +kernel
theorem dX6_isLeftEnd_29 : decode cX6_isLeftEnd 29 = .ok (.laload, 1) := by decide +kernel
theorem dX6_isLeftEnd_30 : decode cX6_isLeftEnd 30 = .ok (.aload_n 1, 1) := by decide +kernel
theorem dX6_isLeftEnd_31 : decode cX6_isLeftEnd 31 = .ok (.getfield 59, 3) := by decide +kernel
theorem dX6_isLeftEnd_34 : decode cX6_isLeftEnd 34 = .ok (.lcmp, 1) := by decide +kernel
theorem dX6_isLeftEnd_35 : decode cX6_isLeftEnd 35 = .ok (.ifCond .ne 5, 3) := by decide +kernel
theorem dX6_isLeftEnd_38 : decode cX6_isLeftEnd 38 = .ok (.iconst 1, 1) := by decide +kernel
theorem dX6_isLeftEnd_39 : decode cX6_isLeftEnd 39 = .ok (.ireturn, 1) := by decide +kernel
theorem dX6_isLeftEnd_40 : decode cX6_isLeftEnd 40 = .ok (.iinc 2 1, 3) := by decide +kernel
theorem dX6_isLeftEnd_43 : decode cX6_isLeftEnd 43 = .ok (.goto (-41), 3) := by decide +kernel
theorem dX6_isLeftEnd_46 : decode cX6_isLeftEnd 46 = .ok (.iconst 0, 1) := by decide +kernel
theorem dX6_isLeftEnd_47 : decode cX6_isLeftEnd 47 = .ok (.ireturn, 1) := by decide +kernel
theorem dX6_isLeftOf_0 : decode cX6_isLeftOf 0 = .ok (.lload_n 1, 1) := by decide +kernel
theorem dX6_isLeftOf_1 : decode cX6_isLeftOf 1 = .ok (.aload_n 0, 1) := by decide +kernel
theorem dX6_isLeftOf_2 : decode cX6_isLeftOf 2 = .ok (.getfield 15, 3) := by decide +kernel
theorem dX6_isLeftOf_5 : decode cX6_isLeftOf 5 = .ok (.iload 5, 2) := by decide +kernel
theorem dX6_isLeftOf_7 : decode cX6_isLeftOf 7 = .ok (.laload, 1) := by decide +kernel
theorem dX6_isLeftOf_8 : decode cX6_isLeftOf 8 = .ok (.lsub, 1) := by decide +kernel
theorem dX6_isLeftOf_9 : decode cX6_isLeftOf 9 = .ok (.lload_n 3, 1) := by decide +kernel
theorem dX6_isLeftOf_10 : decode cX6_isLeftOf 10 = .ok (.aload_n 0, 1) := by decide +kernel
theorem dX6_isLeftOf_11 : decode cX6_isLeftOf 11 = .ok (.getfield 19, 3) := by decide +kernel
theorem dX6_isLeftOf_14 : decode cX6_isLeftOf 14 = .ok (.iload 5, 2) := by decide +kernel
theorem dX6_isLeftOf_16 : decode cX6_isLeftOf 16 = .ok (.laload, 1) := by decide +kernel
theorem dX6_isLeftOf_17 : decode cX6_isLeftOf 17 = .ok (.lsub, 1) := by decide +kernel
theorem dX6_isLeftOf_18 : decode cX6_isLeftOf 18 = .ok (.aload_n 0, 1) := by decide +kernel
theorem dX6_isLeftOf_19 : decode cX6_isLeftOf 19 = .ok (.getfield 38, 3) := by decide +kernel
theorem dX6_isLeftOf_22 : decode cX6_isLeftOf 22 = .ok (.invokestatic 45, 3) := by decide +kernel
theorem dX6_isLeftOf_25 : decode cX6_isLeftOf 25 = .ok (.ifCond .ge 7, 3) := by decide +kernel
theorem dX6_isLeftOf_28 : decode cX6_isLeftOf 28 = .ok (.iconst 1, 1) := by decide +kernel
theorem dX6_isLeftOf_29 : decode cX6_isLeftOf 29 = .ok (.goto 4, 3) := by decide +kernel
theorem dX6_isLeftOf_32 : decode cX6_isLeftOf 32 = .ok (.iconst 0, 1) := by decide +kernel
theorem dX6_isLeftOf_33 : decode cX6_isLeftOf 33 = .ok (.ireturn, 1) := by decide +kernel
theorem dX7_init_0 : decode cX7_init 0 = .ok (.aload_n 0, 1) := by decide +kernel
theorem dX7_init_1 : decode cX7_init 1 = .ok (.invokespecial 1, 3) := by decide +kernel
theorem dX7_init_4 : decode cX7_init 4 = .ok (.aload_n 0, 1) := by decide +kernel
theorem dX7_init_5 : decode cX7_init 5 = .ok (.iconst 0, 1) := by decide +kernel
theorem dX7_init_6 : decode cX7_init 6 = .ok (.putfield 7, 3) := by decide +kernel
theorem dX7_init_9 : decode cX7_init 9 = .ok (.aload_n 0, 1) := by decide +kernel
theorem dX7_init_10 : decode cX7_init 10 = .ok (.new 13, 3) := by decide +kernel
theorem dX7_init_13 : decode cX7_init 13 = .ok (.dup, 1) := by decide +kernel
theorem dX7_init_14 : decode cX7_init 14 = .ok (.invokespecial 15, 3) := by decide +kernel
theorem dX7_init_17 : decode cX7_init 17 = .ok (.putfield 16, 3) := by decide +kernel
theorem dX7_init_20 : decode cX7_init 20 = .ok (.aload_n 0, 1) := by decide +kernel
theorem dX7_init_21 : decode cX7_init 21 = .ok (.new 20, 3) := by decide +kernel
theorem dX7_init_24 : decode cX7_init 24 = .ok (.dup, 1) := by decide +kernel
theorem dX7_init_25 : decode cX7_init 25 = .ok (.invokespecial 22, 3) := by decide +kernel
theorem dX7_init_28 : decode cX7_init 28 = .ok (.putfield 23, 3) := by decide +kernel
theorem dX7_init_31 : decode cX7_init 31 = .ok (.aload_n 0, 1) := by decide +kernel
theorem dX7_init_32 : decode cX7_init 32 = .ok (.new 20, 3) := by decide +kernel
theorem dX7_init_35 : decode cX7_init 35 = .ok (.dup, 1) := by decide +kernel
theorem dX7_init_36 : decode cX7_init 36 = .ok (.invokespecial 22, 3) := by decide +kernel
theorem dX7_init_39 : decode cX7_init 39 = .ok (.putfield 27, 3) := by decide +kernel
theorem dX7_init_42 : decode cX7_init 42 = .ok (.aload_n 0, 1) := by decide +kernel
theorem dX7_init_43 : decode cX7_init 43 = .ok (.new 30, 3) := by decide +kernel
theorem dX7_init_46 : decode cX7_init 46 = .ok (.dup, 1) := by decide +kernel
theorem dX7_init_47 : decode cX7_init 47 = .ok (.invokespecial 32, 3) := by decide +kernel
theorem dX7_init_50 : decode cX7_init 50 = .ok (.putfield 33, 3) := by decide +kernel
theorem dX7_init_53 : decode cX7_init 53 = .ok (.aload_n 0, 1) := by decide +kernel
theorem dX7_init_54 : decode cX7_init 54 = .ok (.new 30, 3) := by decide +kernel
theorem dX7_init_57 : decode cX7_init 57 = .ok (.dup, 1) := by decide +kernel
theorem dX7_init_58 : decode cX7_init 58 = .ok (.invokespecial 32, 3) := by decide +kernel
theorem dX7_init_61 : decode cX7_init 61 = .ok (.putfield 37, 3) := by decide +kernel
theorem dX7_init_64 : decode cX7_init 64 = .ok (.aload_n 0, 1) := by decide +kernel
theorem dX7_init_65 : decode cX7_init 65 = .ok (.new 40, 3) := by decide +kernel
theorem dX7_init_68 : decode cX7_init 68 = .ok (.dup, 1) := by decide +kernel
theorem dX7_init_69 : decode cX7_init 69 = .ok (.invokespecial 42, 3) := by decide +kernel
theorem dX7_init_72 : decode cX7_init 72 = .ok (.putfield 43, 3) := by decide +kernel
theorem dX7_init_75 : decode cX7_init 75 = .ok (.aload_n 0, 1) := by decide +kernel
theorem dX7_init_76 : decode cX7_init 76 = .ok (.new 40, 3) := by decide +kernel
theorem dX7_init_79 : decode cX7_init 79 = .ok (.dup, 1) := by decide +kernel
theorem dX7_init_80 : decode cX7_init 80 = .ok (.invokespecial 42, 3) := by decide +kernel
theorem dX7_init_83 : decode cX7_init 83 = .ok (.putfield 47, 3) := by decide +kernel
theorem dX7_init_86 : decode cX7_init 86 = .ok (.aload_n 0, 1) := by decide +kernel
theorem dX7_init_87 : decode cX7_init 87 = .ok (.new 50, 3) := by decide +kernel
theorem dX7_init_90 : decode cX7_init 90 = .ok (.dup, 1) := by decide +kernel
theorem dX7_init_91 : decode cX7_init 91 = .ok (.invokespecial 52, 3) := by decide +kernel
theorem dX7_init_94 : decode cX7_init 94 = .ok (.putfield 53, 3) := by decide +kernel
theorem dX7_init_97 : decode cX7_init 97 = .ok (.aload_n 0, 1) := by decide +kernel
theorem dX7_init_98 : decode cX7_init 98 = .ok (.new 57, 3) := by decide +kernel
theorem dX7_init_101 : decode cX7_init 101 = .ok (.dup, 1) := by decide +kernel
theorem dX7_init_102 : decode cX7_init 102 = .ok (.invokespecial 59, 3) := by decide +kernel
theorem dX7_init_105 : decode cX7_init 105 = .ok (.putfield 60, 3) := by decide +kernel
theorem dX7_init_108 : decode cX7_init 108 = .ok (.aload_n 0, 1) := by decide +kernel
theorem dX7_init_109 : decode cX7_init 109 = .ok (.new 64, 3) := by decide +kernel
theorem dX7_init_112 : decode cX7_init 112 = .ok (.dup, 1) := by decide +kernel
theorem dX7_init_113 : decode cX7_init 113 = .ok (.invokespecial 66, 3) := by decide +kernel
theorem dX7_init_116 : decode cX7_init 116 = .ok (.putfield 67, 3) := by decide +kernel
theorem dX7_init_119 : decode cX7_init 119 = .ok (.return_, 1) := by decide +kernel
theorem dX7_root_0 : decode cX7_root 0 = .ok (.iload_n 1, 1) := by decide +kernel
theorem dX7_root_1 : decode cX7_root 1 = .ok (.ifCond .eq 26, 3) := by decide +kernel
theorem dX7_root_4 : decode cX7_root 4 = .ok (.iload_n 1, 1) := by decide +kernel
theorem dX7_root_5 : decode cX7_root 5 = .ok (.iconst 2, 1) := by decide +kernel
theorem dX7_root_6 : decode cX7_root 6 = .ok (.if_icmp .eq 21, 3) := by decide +kernel
theorem dX7_root_9 : decode cX7_root 9 = .ok (.iload_n 1, 1) := by decide +kernel
theorem dX7_root_10 : decode cX7_root 10 = .ok (.iconst 3, 1) := by decide +kernel
theorem dX7_root_11 : decode cX7_root 11 = .ok (.if_icmp .eq 16, 3) := by decide +kernel
theorem dX7_root_14 : decode cX7_root 14 = .ok (.iload_n 1, 1) := by decide +kernel
theorem dX7_root_15 : decode cX7_root 15 = .ok (.iconst 5, 1) := by decide +kernel
theorem dX7_root_16 : decode cX7_root 16 = .ok (.if_icmp .eq 11, 3) := by decide +kernel
theorem dX7_root_19 : decode cX7_root 19 = .ok (.iload_n 1, 1) := by decide +kernel
theorem dX7_root_20 : decode cX7_root 20 = .ok (.bipush 7, 2) := by decide +kernel
theorem dX7_root_22 : decode cX7_root 22 = .ok (.if_icmp .eq 5, 3) := by decide +kernel
theorem dX7_root_25 : decode cX7_root 25 = .ok (.iconst 0, 1) := by decide +kernel
theorem dX7_root_26 : decode cX7_root 26 = .ok (.ireturn, 1) := by decide +kernel
theorem dX7_root_27 : decode cX7_root 27 = .ok (.aload_n 0, 1) := by decide +kernel
theorem dX7_root_28 : decode cX7_root 28 = .ok (.iload_n 1, 1) := by decide +kernel
theorem dX7_root_29 : decode cX7_root 29 = .ok (.putfield 7, 3) := by decide +kernel
theorem dX7_root_32 : decode cX7_root 32 = .ok (.aload_n 0, 1) := by decide +kernel
theorem dX7_root_33 : decode cX7_root 33 = .ok (.getfield 16, 3) := by decide +kernel
theorem dX7_root_36 : decode cX7_root 36 = .ok (.invokevirtual 71, 3) := by decide +kernel
theorem dX7_root_39 : decode cX7_root 39 = .ok (.aload_n 0, 1) := by decide +kernel
theorem dX7_root_40 : decode cX7_root 40 = .ok (.getfield 23, 3) := by decide +kernel
theorem dX7_root_43 : decode cX7_root 43 = .ok (.iconst 0, 1) := by decide +kernel
theorem dX7_root_44 : decode cX7_root 44 = .ok (.putfield 74, 3) := by decide +kernel
theorem dX7_root_47 : decode cX7_root 47 = .ok (.aload_n 0, 1) := by decide +kernel
theorem dX7_root_48 : decode cX7_root 48 = .ok (.getfield 43, 3) := by decide +kernel
theorem dX7_root_51 : decode cX7_root 51 = .ok (.iconst 0, 1) := by decide +kernel
theorem dX7_root_52 : decode cX7_root 52 = .ok (.putfield 77, 3) := by decide +kernel
theorem dX7_root_55 : decode cX7_root 55 = .ok (.iconst 1, 1) := by decide +kernel
theorem dX7_root_56 : decode cX7_root 56 = .ok (.ireturn, 1) := by decide +kernel
theorem dX7_length_0 : decode cX7_length 0 = .ok (.iload_n 1, 1) := by decide +kernel
theorem dX7_length_1 : decode cX7_length 1 = .ok (.ifCond .lt 35, 3) := by decide +kernel
theorem dX7_length_4 : decode cX7_length 4 = .ok (.iload_n 1, 1) := by decide +kernel
theorem dX7_length_5 : decode cX7_length 5 = .ok (.bipush 8, 2) := by decide +kernel
theorem dX7_length_7 : decode cX7_length 7 = .ok (.if_icmp .ge 29, 3) := by decide +kernel
theorem dX7_length_10 : decode cX7_length 10 = .ok (.aload_n 0, 1) := by decide +kernel
theorem dX7_length_11 : decode cX7_length 11 = .ok (.iload_n 2, 1) := by decide +kernel
theorem dX7_length_12 : decode cX7_length 12 = .ok (.iload_n 3, 1) := by decide +kernel
theorem dX7_length_13 : decode cX7_length 13 = .ok (.sipush 16384, 3) := by decide +kernel
theorem dX7_length_16 : decode cX7_length 16 = .ok (.invokevirtual 81, 3) := by decide +kernel
theorem dX7_length_19 : decode cX7_length 19 = .ok (.ifCond .eq 17, 3) := by decide +kernel
theorem dX7_length_22 : decode cX7_length 22 = .ok (.iload_n 2, 1) := by decide +kernel
theorem dX7_length_23 : decode cX7_length 23 = .ok (.i2l, 1) := by decide +kernel
theorem dX7_length_24 : decode cX7_length 24 = .ok (.iload_n 3, 1) := by decide +kernel
theorem dX7_length_25 : decode cX7_length 25 = .ok (.i2l, 1) := by decide +kernel
theorem dX7_length_26 : decode cX7_length 26 = .ok (.aload_n 0, 1) := by decide +kernel
theorem dX7_length_27 : decode cX7_length 27 = .ok (.getfield 7, 3) := by decide +kernel
theorem dX7_length_30 : decode cX7_length 30 = .ok (.invokestatic 85, 3) := by decide +kernel
theorem dX7_length_33 : decode cX7_length 33 = .ok (.ifCond .gt 5, 3) := by decide +kernel
theorem dX7_length_36 : decode cX7_length 36 = .ok (.iconst 0, 1) := by decide +kernel
theorem dX7_length_37 : decode cX7_length 37 = .ok (.ireturn, 1) := by decide +kernel
theorem dX7_length_38 : decode cX7_length 38 = .ok (.aload_n 0, 1) := by decide +kernel
theorem dX7_length_39 : decode cX7_length 39 = .ok (.getfield 16, 3) := by decide +kernel
theorem dX7_length_42 : decode cX7_length 42 = .ok (.getfield 89, 3) := by decide +kernel
theorem dX7_length_45 : decode cX7_length 45 = .ok (.iload_n 1, 1) := by decide +kernel
theorem dX7_length_46 : decode cX7_length 46 = .ok (.iload_n 2, 1) := by decide +kernel
theorem dX7_length_47 : decode cX7_length 47 = .ok (.iastore, 1) := by decide +kernel
theorem dX7_length_48 : decode cX7_length 48 = .ok (.aload_n 0, 1) := by decide +kernel
theorem dX7_length_49 : decode cX7_length 49 = .ok (.getfield 16, 3) := by decide +kernel
theorem dX7_length_52 : decode cX7_length 52 = .ok (.getfield 93, 3) := by decide +kernel
theorem dX7_length_55 : decode cX7_length 55 = .ok (.iload_n 1, 1) := by decide +kernel
theorem dX7_length_56 : decode cX7_length 56 = .ok (.iload_n 3, 1) := by decide +kernel
theorem dX7_length_57 : decode cX7_length 57 = .ok (.iastore, 1) := by decide +kernel
theorem dX7_length_58 : decode cX7_length 58 = .ok (.iconst 1, 1) := by decide +kernel
theorem dX7_length_59 : decode cX7_length 59 = .ok (.ireturn, 1) := by decide +kernel
theorem dX7_below_0 : decode cX7_below 0 = .ok (.aload_n 0, 1) := by decide +kernel
theorem dX7_below_1 : decode cX7_below 1 = .ok (.getfield 16, 3) := by decide +kernel
theorem dX7_below_4 : decode cX7_below 4 = .ok (.iload_n 1, 1) := by decide +kernel
theorem dX7_below_5 : decode cX7_below 5 = .ok (.iload_n 2, 1) := by decide +kernel
theorem dX7_below_6 : decode cX7_below 6 = .ok (.invokevirtual 96, 3) := by decide +kernel
theorem dX7_below_9 : decode cX7_below 9 = .ok (.ireturn, 1) := by decide +kernel
theorem dX7_lay_0 : decode cX7_lay 0 = .ok (.aload_n 0, 1) := by decide +kernel
theorem dX7_lay_1 : decode cX7_lay 1 = .ok (.getfield 16, 3) := by decide +kernel
theorem dX7_lay_4 : decode cX7_lay 4 = .ok (.getfield 100, 3) := by decide +kernel
theorem dX7_lay_7 : decode cX7_lay 7 = .ok (.ifCond .ne 5, 3) := by decide +kernel
theorem dX7_lay_10 : decode cX7_lay 10 = .ok (.iconst (-1), 1) := by decide +kernel
theorem dX7_lay_11 : decode cX7_lay 11 = .ok (.ireturn, 1) := by decide +kernel
theorem dX7_lay_12 : decode cX7_lay 12 = .ok (.aload_n 0, 1) := by decide +kernel
theorem dX7_lay_13 : decode cX7_lay 13 = .ok (.getfield 16, 3) := by decide +kernel
theorem dX7_lay_16 : decode cX7_lay 16 = .ok (.invokevirtual 101, 3) := by decide +kernel
theorem dX7_lay_19 : decode cX7_lay 19 = .ok (.ifCond .ne 6, 3) := by decide +kernel
theorem dX7_lay_22 : decode cX7_lay 22 = .ok (.bipush (-2), 2) := by decide +kernel
theorem dX7_lay_24 : decode cX7_lay 24 = .ok (.ireturn, 1) := by decide +kernel
theorem dX7_lay_25 : decode cX7_lay 25 = .ok (.aload_n 0, 1) := by decide +kernel
theorem dX7_lay_26 : decode cX7_lay 26 = .ok (.getfield 23, 3) := by decide +kernel
theorem dX7_lay_29 : decode cX7_lay 29 = .ok (.aload_n 0, 1) := by decide +kernel
theorem dX7_lay_30 : decode cX7_lay 30 = .ok (.getfield 16, 3) := by decide +kernel
theorem dX7_lay_33 : decode cX7_lay 33 = .ok (.aload_n 0, 1) := by decide +kernel
theorem dX7_lay_34 : decode cX7_lay 34 = .ok (.getfield 7, 3) := by decide +kernel
theorem dX7_lay_37 : decode cX7_lay 37 = .ok (.invokevirtual 105, 3) := by decide +kernel
theorem dX7_lay_40 : decode cX7_lay 40 = .ok (.aload_n 0, 1) := by decide +kernel
theorem dX7_lay_41 : decode cX7_lay 41 = .ok (.invokevirtual 109, 3) := by decide +kernel
theorem dX7_lay_44 : decode cX7_lay 44 = .ok (.aload_n 0, 1) := by decide +kernel
theorem dX7_lay_45 : decode cX7_lay 45 = .ok (.getfield 43, 3) := by decide +kernel
theorem dX7_lay_48 : decode cX7_lay 48 = .ok (.iconst 0, 1) := by decide +kernel
theorem dX7_lay_49 : decode cX7_lay 49 = .ok (.putfield 77, 3) := by decide +kernel
theorem dX7_lay_52 : decode cX7_lay 52 = .ok (.aload_n 0, 1) := by decide +kernel
theorem dX7_lay_53 : decode cX7_lay 53 = .ok (.getfield 23, 3) := by decide +kernel
theorem dX7_lay_56 : decode cX7_lay 56 = .ok (.getfield 74, 3) := by decide +kernel
theorem dX7_lay_59 : decode cX7_lay 59 = .ok (.ireturn, 1) := by decide +kernel
theorem dX7_of_0 : decode cX7_of 0 = .ok (.aload_n 0, 1) := by decide +kernel
theorem dX7_of_1 : decode cX7_of 1 = .ok (.getfield 23, 3) := by decide +kernel
theorem dX7_of_4 : decode cX7_of 4 = .ok (.getfield 74, 3) := by decide +kernel
theorem dX7_of_7 : decode cX7_of 7 = .ok (.ifCond .ne 5, 3) := by decide +kernel
theorem dX7_of_10 : decode cX7_of 10 = .ok (.iconst (-1), 1) := by decide +kernel
theorem dX7_of_11 : decode cX7_of 11 = .ok (.ireturn, 1) := by decide +kernel
theorem dX7_of_12 : decode cX7_of 12 = .ok (.iload_n 1, 1) := by decide +kernel
theorem dX7_of_13 : decode cX7_of 13 = .ok (.tableswitch 63 0 3 #[31, 39, 47, 55], 31) := by decide +kernel
theorem dX7_of_44 : decode cX7_of 44 = .ok (.aload_n 0, 1) := by decide +kernel
theorem dX7_of_45 : decode cX7_of 45 = .ok (.getfield 23, 3) := by decide +kernel
theorem dX7_of_48 : decode cX7_of 48 = .ok (.getfield 74, 3) := by decide +kernel
theorem dX7_of_51 : decode cX7_of 51 = .ok (.ireturn, 1) := by decide +kernel
theorem dX7_of_52 : decode cX7_of 52 = .ok (.aload_n 0, 1) := by decide +kernel
theorem dX7_of_53 : decode cX7_of 53 = .ok (.getfield 23, 3) := by decide +kernel
theorem dX7_of_56 : decode cX7_of 56 = .ok (.getfield 112, 3) := by decide +kernel
theorem dX7_of_59 : decode cX7_of 59 = .ok (.ireturn, 1) := by decide +kernel
theorem dX7_of_60 : decode cX7_of 60 = .ok (.aload_n 0, 1) := by decide +kernel
theorem dX7_of_61 : decode cX7_of 61 = .ok (.getfield 23, 3) := by decide +kernel
theorem dX7_of_64 : decode cX7_of 64 = .ok (.invokevirtual 115, 3) := by decide +kernel
theorem dX7_of_67 : decode cX7_of 67 = .ok (.ireturn, 1) := by decide +kernel
theorem dX7_of_68 : decode cX7_of 68 = .ok (.aload_n 0, 1) := by decide +kernel
theorem dX7_of_69 : decode cX7_of 69 = .ok (.getfield 23, 3) := by decide +kernel
theorem dX7_of_72 : decode cX7_of 72 = .ok (.getfield 119, 3) := by decide +kernel
theorem dX7_of_75 : decode cX7_of 75 = .ok (.ireturn, 1) := by decide +kernel
theorem dX7_of_76 : decode cX7_of 76 = .ok (.iconst (-1), 1) := by decide +kernel
theorem dX7_of_77 : decode cX7_of 77 = .ok (.ireturn, 1) := by decide +kernel
theorem dX7_spans_0 : decode cX7_spans 0 = .ok (.iload_n 1, 1) := by decide +kernel
theorem dX7_spans_1 : decode cX7_spans 1 = .ok (.ifCond .lt 33, 3) := by decide +kernel
theorem dX7_spans_4 : decode cX7_spans 4 = .ok (.iload_n 1, 1) := by decide +kernel
theorem dX7_spans_5 : decode cX7_spans 5 = .ok (.aload_n 0, 1) := by decide +kernel
theorem dX7_spans_6 : decode cX7_spans 6 = .ok (.getfield 23, 3) := by decide +kernel
theorem dX7_spans_9 : decode cX7_spans 9 = .ok (.getfield 74, 3) := by decide +kernel
theorem dX7_spans_12 : decode cX7_spans 12 = .ok (.if_icmp .gt 22, 3) := by decide +kernel
theorem dX7_spans_15 : decode cX7_spans 15 = .ok (.aload_n 0, 1) := by decide +kernel
theorem dX7_spans_16 : decode cX7_spans 16 = .ok (.getfield 23, 3) := by decide +kernel
theorem dX7_spans_19 : decode cX7_spans 19 = .ok (.getfield 74, 3) := by decide +kernel
theorem dX7_spans_22 : decode cX7_spans 22 = .ok (.ifCond .eq 12, 3) := by decide +kernel
theorem dX7_spans_25 : decode cX7_spans 25 = .ok (.iload_n 2, 1) := by decide +kernel
theorem dX7_spans_26 : decode cX7_spans 26 = .ok (.ifCond .lt 8, 3) := by decide +kernel
theorem dX7_spans_29 : decode cX7_spans 29 = .ok (.iload_n 2, 1) := by decide +kernel
theorem dX7_spans_30 : decode cX7_spans 30 = .ok (.iconst 1, 1) := by decide +kernel
theorem dX7_spans_31 : decode cX7_spans 31 = .ok (.if_icmp .le 5, 3) := by decide +kernel
theorem dX7_spans_34 : decode cX7_spans 34 = .ok (.lconst 0, 1) := by decide +kernel
theorem dX7_spans_35 : decode cX7_spans 35 = .ok (.lreturn, 1) := by decide +kernel
theorem dX7_spans_36 : decode cX7_spans 36 = .ok (.iload_n 1, 1) := by decide +kernel
theorem dX7_spans_37 : decode cX7_spans 37 = .ok (.aload_n 0, 1) := by decide +kernel
theorem dX7_spans_38 : decode cX7_spans 38 = .ok (.getfield 23, 3) := by decide +kernel
theorem dX7_spans_41 : decode cX7_spans 41 = .ok (.getfield 74, 3) := by decide +kernel
theorem dX7_spans_44 : decode cX7_spans 44 = .ok (.if_icmp .ne 29, 3) := by decide +kernel
theorem dX7_spans_47 : decode cX7_spans 47 = .ok (.iload_n 2, 1) := by decide +kernel
theorem dX7_spans_48 : decode cX7_spans 48 = .ok (.ifCond .ne 15, 3) := by decide +kernel
theorem dX7_spans_51 : decode cX7_spans 51 = .ok (.aload_n 0, 1) := by decide +kernel
theorem dX7_spans_52 : decode cX7_spans 52 = .ok (.getfield 33, 3) := by decide +kernel
theorem dX7_spans_55 : decode cX7_spans 55 = .ok (.getfield 122, 3) := by decide +kernel
theorem dX7_spans_58 : decode cX7_spans 58 = .ok (.iload_n 1, 1) := by decide +kernel
theorem dX7_spans_59 : decode cX7_spans 59 = .ok (.laload, 1) := by decide +kernel
theorem dX7_spans_60 : decode cX7_spans 60 = .ok (.goto 12, 3) := by decide +kernel
theorem dX7_spans_63 : decode cX7_spans 63 = .ok (.aload_n 0, 1) := by decide +kernel
theorem dX7_spans_64 : decode cX7_spans 64 = .ok (.getfield 33, 3) := by decide +kernel
theorem dX7_spans_67 : decode cX7_spans 67 = .ok (.getfield 126, 3) := by decide +kernel
theorem dX7_spans_70 : decode cX7_spans 70 = .ok (.iload_n 1, 1) := by decide +kernel
theorem dX7_spans_71 : decode cX7_spans 71 = .ok (.laload, 1) := by decide +kernel
theorem dX7_spans_72 : decode cX7_spans 72 = .ok (.lreturn, 1) := by decide +kernel
theorem dX7_spans_73 : decode cX7_spans 73 = .ok (.iload_n 2, 1) := by decide +kernel
theorem dX7_spans_74 : decode cX7_spans 74 = .ok (.ifCond .ne 16, 3) := by decide +kernel
theorem dX7_spans_77 : decode cX7_spans 77 = .ok (.aload_n 0, 1) := by decide +kernel
theorem dX7_spans_78 : decode cX7_spans 78 = .ok (.getfield 23, 3) := by decide +kernel
theorem dX7_spans_81 : decode cX7_spans 81 = .ok (.getfield 129, 3) := by decide +kernel
theorem dX7_spans_84 : decode cX7_spans 84 = .ok (.iload_n 1, 1) := by decide +kernel
theorem dX7_spans_85 : decode cX7_spans 85 = .ok (.iaload, 1) := by decide +kernel
theorem dX7_spans_86 : decode cX7_spans 86 = .ok (.i2l, 1) := by decide +kernel
theorem dX7_spans_87 : decode cX7_spans 87 = .ok (.goto 13, 3) := by decide +kernel
theorem dX7_spans_90 : decode cX7_spans 90 = .ok (.aload_n 0, 1) := by decide +kernel
theorem dX7_spans_91 : decode cX7_spans 91 = .ok (.getfield 23, 3) := by decide +kernel
theorem dX7_spans_94 : decode cX7_spans 94 = .ok (.getfield 130, 3) := by decide +kernel
theorem dX7_spans_97 : decode cX7_spans 97 = .ok (.iload_n 1, 1) := by decide +kernel
theorem dX7_spans_98 : decode cX7_spans 98 = .ok (.iaload, 1) := by decide +kernel
theorem dX7_spans_99 : decode cX7_spans 99 = .ok (.i2l, 1) := by decide +kernel
theorem dX7_spans_100 : decode cX7_spans 100 = .ok (.lreturn, 1) := by decide +kernel
theorem dX7_order_0 : decode cX7_order 0 = .ok (.iload_n 1, 1) := by decide +kernel
theorem dX7_order_1 : decode cX7_order 1 = .ok (.ifCond .lt 23, 3) := by decide +kernel
theorem dX7_order_4 : decode cX7_order 4 = .ok (.iload_n 1, 1) := by decide +kernel
theorem dX7_order_5 : decode cX7_order 5 = .ok (.iconst 1, 1) := by decide +kernel
theorem dX7_order_6 : decode cX7_order 6 = .ok (.if_icmp .gt 18, 3) := by decide +kernel
theorem dX7_order_9 : decode cX7_order 9 = .ok (.iload_n 2, 1) := by decide +kernel
theorem dX7_order_10 : decode cX7_order 10 = .ok (.ifCond .lt 14, 3) := by decide +kernel
theorem dX7_order_13 : decode cX7_order 13 = .ok (.iload_n 2, 1) := by decide +kernel
theorem dX7_order_14 : decode cX7_order 14 = .ok (.aload_n 0, 1) := by decide +kernel
theorem dX7_order_15 : decode cX7_order 15 = .ok (.getfield 23, 3) := by decide +kernel
theorem dX7_order_18 : decode cX7_order 18 = .ok (.getfield 74, 3) := by decide +kernel
theorem dX7_order_21 : decode cX7_order 21 = .ok (.if_icmp .lt 5, 3) := by decide +kernel
theorem dX7_order_24 : decode cX7_order 24 = .ok (.iconst (-1), 1) := by decide +kernel
theorem dX7_order_25 : decode cX7_order 25 = .ok (.ireturn, 1) := by decide +kernel
theorem dX7_order_26 : decode cX7_order 26 = .ok (.iload_n 1, 1) := by decide +kernel
theorem dX7_order_27 : decode cX7_order 27 = .ok (.ifCond .ne 15, 3) := by decide +kernel
theorem dX7_order_30 : decode cX7_order 30 = .ok (.aload_n 0, 1) := by decide +kernel
theorem dX7_order_31 : decode cX7_order 31 = .ok (.getfield 23, 3) := by decide +kernel
theorem dX7_order_34 : decode cX7_order 34 = .ok (.getfield 131, 3) := by decide +kernel
theorem dX7_order_37 : decode cX7_order 37 = .ok (.iload_n 2, 1) := by decide +kernel
theorem dX7_order_38 : decode cX7_order 38 = .ok (.iaload, 1) := by decide +kernel
theorem dX7_order_39 : decode cX7_order 39 = .ok (.goto 12, 3) := by decide +kernel
theorem dX7_order_42 : decode cX7_order 42 = .ok (.aload_n 0, 1) := by decide +kernel
theorem dX7_order_43 : decode cX7_order 43 = .ok (.getfield 23, 3) := by decide +kernel
theorem dX7_order_46 : decode cX7_order 46 = .ok (.getfield 134, 3) := by decide +kernel
theorem dX7_order_49 : decode cX7_order 49 = .ok (.iload_n 2, 1) := by decide +kernel
theorem dX7_order_50 : decode cX7_order 50 = .ok (.iaload, 1) := by decide +kernel
theorem dX7_order_51 : decode cX7_order 51 = .ok (.ireturn, 1) := by decide +kernel
theorem dX7_point_0 : decode cX7_point 0 = .ok (.aload_n 0, 1) := by decide +kernel
theorem dX7_point_1 : decode cX7_point 1 = .ok (.getfield 23, 3) := by decide +kernel
theorem dX7_point_4 : decode cX7_point 4 = .ok (.getfield 74, 3) := by decide +kernel
theorem dX7_point_7 : decode cX7_point 7 = .ok (.ifCond .eq 28, 3) := by decide +kernel
theorem dX7_point_10 : decode cX7_point 10 = .ok (.aload_n 0, 1) := by decide +kernel
theorem dX7_point_11 : decode cX7_point 11 = .ok (.iload_n 1, 1) := by decide +kernel
theorem dX7_point_12 : decode cX7_point 12 = .ok (.iload_n 2, 1) := by decide +kernel
theorem dX7_point_13 : decode cX7_point 13 = .ok (.ldc 137, 2) := by decide +kernel
theorem dX7_point_15 : decode cX7_point 15 = .ok (.invokevirtual 81, 3) := by decide +kernel
theorem dX7_point_18 : decode cX7_point 18 = .ok (.ifCond .eq 17, 3) := by decide +kernel
theorem dX7_point_21 : decode cX7_point 21 = .ok (.aload_n 0, 1) := by decide +kernel
theorem dX7_point_22 : decode cX7_point 22 = .ok (.getfield 33, 3) := by decide +kernel
theorem dX7_point_25 : decode cX7_point 25 = .ok (.iload_n 1, 1) := by decide +kernel
theorem dX7_point_26 : decode cX7_point 26 = .ok (.i2l, 1) := by decide +kernel
theorem dX7_point_27 : decode cX7_point 27 = .ok (.iload_n 2, 1) := by decide +kernel
theorem dX7_point_28 : decode cX7_point 28 = .ok (.i2l, 1) := by decide +kernel
theorem dX7_point_29 : decode cX7_point 29 = .ok (.invokevirtual 138, 3) := by decide +kernel
theorem dX7_point_32 : decode cX7_point 32 = .ok (.ifCond .ne 5, 3) := by decide +kernel
theorem dX7_point_35 : decode cX7_point 35 = .ok (.iconst (-1), 1) := by decide +kernel
theorem dX7_point_36 : decode cX7_point 36 = .ok (.ireturn, 1) := by decide +kernel
theorem dX7_point_37 : decode cX7_point 37 = .ok (.aload_n 0, 1) := by decide +kernel
theorem dX7_point_38 : decode cX7_point 38 = .ok (.getfield 43, 3) := by decide +kernel
theorem dX7_point_41 : decode cX7_point 41 = .ok (.iload_n 1, 1) := by decide +kernel
theorem dX7_point_42 : decode cX7_point 42 = .ok (.i2l, 1) := by decide +kernel
theorem dX7_point_43 : decode cX7_point 43 = .ok (.iload_n 2, 1) := by decide +kernel
theorem dX7_point_44 : decode cX7_point 44 = .ok (.i2l, 1) := by decide +kernel
theorem dX7_point_45 : decode cX7_point 45 = .ok (.invokevirtual 142, 3) := by decide +kernel
theorem dX7_point_48 : decode cX7_point 48 = .ok (.aload_n 0, 1) := by decide +kernel
theorem dX7_point_49 : decode cX7_point 49 = .ok (.getfield 33, 3) := by decide +kernel
theorem dX7_point_52 : decode cX7_point 52 = .ok (.aload_n 0, 1) := by decide +kernel
theorem dX7_point_53 : decode cX7_point 53 = .ok (.getfield 43, 3) := by decide +kernel
theorem dX7_point_56 : decode cX7_point 56 = .ok (.invokevirtual 146, 3) := by decide +kernel
theorem dX7_point_59 : decode cX7_point 59 = .ok (.ireturn, 1) := by decide +kernel
theorem dX7_move_0 : decode cX7_move 0 = .ok (.aload_n 0, 1) := by decide +kernel
theorem dX7_move_1 : decode cX7_move 1 = .ok (.getfield 43, 3) := by decide +kernel
theorem dX7_move_4 : decode cX7_move 4 = .ok (.getfield 77, 3) := by decide +kernel
theorem dX7_move_7 : decode cX7_move 7 = .ok (.ifCond .eq 17, 3) := by decide +kernel
theorem dX7_move_10 : decode cX7_move 10 = .ok (.iload_n 1, 1) := by decide +kernel
theorem dX7_move_11 : decode cX7_move 11 = .ok (.sipush (-1000), 3) := by decide +kernel
theorem dX7_move_14 : decode cX7_move 14 = .ok (.if_icmp .lt 10, 3) := by decide +kernel
theorem dX7_move_17 : decode cX7_move 17 = .ok (.iload_n 1, 1) := by decide +kernel
theorem dX7_move_18 : decode cX7_move 18 = .ok (.sipush 1000, 3) := by decide +kernel
theorem dX7_move_21 : decode cX7_move 21 = .ok (.if_icmp .le 5, 3) := by decide +kernel
theorem dX7_move_24 : decode cX7_move 24 = .ok (.iconst (-1), 1) := by decide +kernel
theorem dX7_move_25 : decode cX7_move 25 = .ok (.ireturn, 1) := by decide +kernel
theorem dX7_move_26 : decode cX7_move 26 = .ok (.iload_n 1, 1) := by decide +kernel
theorem dX7_move_27 : decode cX7_move 27 = .ok (.ifCond .ge 10, 3) := by decide +kernel
theorem dX7_move_30 : decode cX7_move 30 = .ok (.aload_n 0, 1) := by decide +kernel
theorem dX7_move_31 : decode cX7_move 31 = .ok (.getfield 37, 3) := by decide +kernel
theorem dX7_move_34 : decode cX7_move 34 = .ok (.goto 7, 3) := by decide +kernel
theorem dX7_move_37 : decode cX7_move 37 = .ok (.aload_n 0, 1) := by decide +kernel
theorem dX7_move_38 : decode cX7_move 38 = .ok (.getfield 33, 3) := by decide +kernel
theorem dX7_move_41 : decode cX7_move 41 = .ok (.astore_n 2, 1) := by decide +kernel
theorem dX7_move_42 : decode cX7_move 42 = .ok (.iload_n 1, 1) := by decide +kernel
theorem dX7_move_43 : decode cX7_move 43 = .ok (.ifCond .ge 8, 3) := by decide +kernel
theorem dX7_move_46 : decode cX7_move 46 = .ok (.iload_n 1, 1) := by decide +kernel
theorem dX7_move_47 : decode cX7_move 47 = .ok (.ineg, 1) := by decide +kernel
theorem dX7_move_48 : decode cX7_move 48 = .ok (.goto 4, 3) := by decide +kernel
theorem dX7_move_51 : decode cX7_move 51 = .ok (.iload_n 1, 1) := by decide +kernel
theorem dX7_move_52 : decode cX7_move 52 = .ok (.istore_n 3, 1) := by decide +kernel
theorem dX7_move_53 : decode cX7_move 53 = .ok (.aload_n 0, 1) := by decide +kernel
theorem dX7_move_54 : decode cX7_move 54 = .ok (.getfield 47, 3) := by decide +kernel
theorem dX7_move_57 : decode cX7_move 57 = .ok (.aload_n 0, 1) := by decide +kernel
theorem dX7_move_58 : decode cX7_move 58 = .ok (.getfield 43, 3) := by decide +kernel
theorem dX7_move_61 : decode cX7_move 61 = .ok (.getfield 150, 3) := by decide +kernel
theorem dX7_move_64 : decode cX7_move 64 = .ok (.aload_n 0, 1) := by decide +kernel
theorem dX7_move_65 : decode cX7_move 65 = .ok (.getfield 43, 3) := by decide +kernel
theorem dX7_move_68 : decode cX7_move 68 = .ok (.getfield 154, 3) := by decide +kernel
theorem dX7_move_71 : decode cX7_move 71 = .ok (.invokevirtual 142, 3) := by decide +kernel
theorem dX7_move_74 : decode cX7_move 74 = .ok (.iconst 0, 1) := by decide +kernel
theorem dX7_move_75 : decode cX7_move 75 = .ok (.istore 4, 2) := by decide +kernel
theorem dX7_move_77 : decode cX7_move 77 = .ok (.iload 4, 2) := by decide +kernel
theorem dX7_move_79 : decode cX7_move 79 = .ok (.iload_n 3, 1) := by decide +kernel
theorem dX7_move_80 : decode cX7_move 80 = .ok (.if_icmp .ge 22, 3) := by decide +kernel
theorem dX7_move_83 : decode cX7_move 83 = .ok (.aload_n 2, 1) := by decide +kernel
theorem dX7_move_84 : decode cX7_move 84 = .ok (.aload_n 0, 1) := by decide +kernel
theorem dX7_move_85 : decode cX7_move 85 = .ok (.getfield 47, 3) := by decide +kernel
theorem dX7_move_88 : decode cX7_move 88 = .ok (.invokevirtual 157, 3) := by decide +kernel
theorem dX7_move_91 : decode cX7_move 91 = .ok (.ifCond .ne 5, 3) := by decide +kernel
theorem dX7_move_94 : decode cX7_move 94 = .ok (.iconst (-1), 1) := by decide +kernel
theorem dX7_move_95 : decode cX7_move 95 = .ok (.ireturn, 1) := by decide +kernel
theorem dX7_move_96 : decode cX7_move 96 = .ok (.iinc 4 1, 3) := by decide +kernel
theorem dX7_move_99 : decode cX7_move 99 = .ok (.goto (-22), 3) := by decide +kernel
theorem dX7_move_102 : decode cX7_move 102 = .ok (.aload_n 0, 1) := by decide +kernel
theorem dX7_move_103 : decode cX7_move 103 = .ok (.getfield 43, 3) := by decide +kernel
theorem dX7_move_106 : decode cX7_move 106 = .ok (.aload_n 0, 1) := by decide +kernel
theorem dX7_move_107 : decode cX7_move 107 = .ok (.getfield 47, 3) := by decide +kernel
theorem dX7_move_110 : decode cX7_move 110 = .ok (.getfield 150, 3) := by decide +kernel
theorem dX7_move_113 : decode cX7_move 113 = .ok (.aload_n 0, 1) := by decide +kernel
theorem dX7_move_114 : decode cX7_move 114 = .ok (.getfield 47, 3) := by decide +kernel
theorem dX7_move_117 : decode cX7_move 117 = .ok (.getfield 154, 3) := by decide +kernel
theorem dX7_move_120 : decode cX7_move 120 = .ok (.invokevirtual 142, 3) := by decide +kernel
theorem dX7_move_123 : decode cX7_move 123 = .ok (.aload_n 0, 1) := by decide +kernel
theorem dX7_move_124 : decode cX7_move 124 = .ok (.getfield 33, 3) := by decide +kernel
theorem dX7_move_127 : decode cX7_move 127 = .ok (.aload_n 0, 1) := by decide +kernel
theorem dX7_move_128 : decode cX7_move 128 = .ok (.getfield 43, 3) := by decide +kernel
theorem dX7_move_131 : decode cX7_move 131 = .ok (.invokevirtual 146, 3) := by decide +kernel
theorem dX7_move_134 : decode cX7_move 134 = .ok (.ireturn, 1) := by decide +kernel
theorem dX7_where_0 : decode cX7_where 0 = .ok (.aload_n 0, 1) := by decide +kernel
theorem dX7_where_1 : decode cX7_where 1 = .ok (.getfield 43, 3) := by decide +kernel
theorem dX7_where_4 : decode cX7_where 4 = .ok (.getfield 77, 3) := by decide +kernel
theorem dX7_where_7 : decode cX7_where 7 = .ok (.ifCond .eq 12, 3) := by decide +kernel
theorem dX7_where_10 : decode cX7_where 10 = .ok (.iload_n 1, 1) := by decide +kernel
theorem dX7_where_11 : decode cX7_where 11 = .ok (.ifCond .lt 8, 3) := by decide +kernel
theorem dX7_where_14 : decode cX7_where 14 = .ok (.iload_n 1, 1) := by decide +kernel
theorem dX7_where_15 : decode cX7_where 15 = .ok (.iconst 1, 1) := by decide +kernel
theorem dX7_where_16 : decode cX7_where 16 = .ok (.if_icmp .le 7, 3) := by decide +kernel
theorem dX7_where_19 : decode cX7_where 19 = .ok (.ldc2_w 161, 3) := by decide +kernel
theorem dX7_where_22 : decode cX7_where 22 = .ok (.lreturn, 1) := by decide +kernel
theorem dX7_where_23 : decode cX7_where 23 = .ok (.iload_n 1, 1) := by decide +kernel
theorem dX7_where_24 : decode cX7_where 24 = .ok (.ifCond .ne 13, 3) := by decide +kernel
theorem dX7_where_27 : decode cX7_where 27 = .ok (.aload_n 0, 1) := by decide +kernel
theorem dX7_where_28 : decode cX7_where 28 = .ok (.getfield 43, 3) := by decide +kernel
theorem dX7_where_31 : decode cX7_where 31 = .ok (.getfield 150, 3) := by decide +kernel
theorem dX7_where_34 : decode cX7_where 34 = .ok (.goto 10, 3) := by decide +kernel
theorem dX7_where_37 : decode cX7_where 37 = .ok (.aload_n 0, 1) := by decide +kernel
theorem dX7_where_38 : decode cX7_where 38 = .ok (.getfield 43, 3) := by decide +kernel
theorem dX7_where_41 : decode cX7_where 41 = .ok (.getfield 154, 3) := by decide +kernel
theorem dX7_where_44 : decode cX7_where 44 = .ok (.lreturn, 1) := by decide +kernel
theorem dX7_back_0 : decode cX7_back 0 = .ok (.aload_n 0, 1) := by decide +kernel
theorem dX7_back_1 : decode cX7_back 1 = .ok (.getfield 43, 3) := by decide +kernel
theorem dX7_back_4 : decode cX7_back 4 = .ok (.getfield 77, 3) := by decide +kernel
theorem dX7_back_7 : decode cX7_back 7 = .ok (.ifCond .eq 28, 3) := by decide +kernel
theorem dX7_back_10 : decode cX7_back 10 = .ok (.aload_n 0, 1) := by decide +kernel
theorem dX7_back_11 : decode cX7_back 11 = .ok (.iload_n 1, 1) := by decide +kernel
theorem dX7_back_12 : decode cX7_back 12 = .ok (.iload_n 2, 1) := by decide +kernel
theorem dX7_back_13 : decode cX7_back 13 = .ok (.ldc 137, 2) := by decide +kernel
theorem dX7_back_15 : decode cX7_back 15 = .ok (.invokevirtual 81, 3) := by decide +kernel
theorem dX7_back_18 : decode cX7_back 18 = .ok (.ifCond .eq 17, 3) := by decide +kernel
theorem dX7_back_21 : decode cX7_back 21 = .ok (.iload_n 1, 1) := by decide +kernel
theorem dX7_back_22 : decode cX7_back 22 = .ok (.i2l, 1) := by decide +kernel
theorem dX7_back_23 : decode cX7_back 23 = .ok (.iload_n 2, 1) := by decide +kernel
theorem dX7_back_24 : decode cX7_back 24 = .ok (.i2l, 1) := by decide +kernel
theorem dX7_back_25 : decode cX7_back 25 = .ok (.aload_n 0, 1) := by decide +kernel
theorem dX7_back_26 : decode cX7_back 26 = .ok (.getfield 7, 3) := by decide +kernel
theorem dX7_back_29 : decode cX7_back 29 = .ok (.invokestatic 85, 3) := by decide +kernel
theorem dX7_back_32 : decode cX7_back 32 = .ok (.ifCond .gt 5, 3) := by decide +kernel
theorem dX7_back_35 : decode cX7_back 35 = .ok (.iconst (-1), 1) := by decide +kernel
theorem dX7_back_36 : decode cX7_back 36 = .ok (.ireturn, 1) := by decide +kernel
theorem dX7_back_37 : decode cX7_back 37 = .ok (.aload_n 0, 1) := by decide +kernel
theorem dX7_back_38 : decode cX7_back 38 = .ok (.getfield 47, 3) := by decide +kernel
theorem dX7_back_41 : decode cX7_back 41 = .ok (.aload_n 0, 1) := by decide +kernel
theorem dX7_back_42 : decode cX7_back 42 = .ok (.getfield 43, 3) := by decide +kernel
theorem dX7_back_45 : decode cX7_back 45 = .ok (.getfield 150, 3) := by decide +kernel
theorem dX7_back_48 : decode cX7_back 48 = .ok (.aload_n 0, 1) := by decide +kernel
theorem dX7_back_49 : decode cX7_back 49 = .ok (.getfield 43, 3) := by decide +kernel
theorem dX7_back_52 : decode cX7_back 52 = .ok (.getfield 154, 3) := by decide +kernel
theorem dX7_back_55 : decode cX7_back 55 = .ok (.invokevirtual 142, 3) := by decide +kernel
theorem dX7_back_58 : decode cX7_back 58 = .ok (.iconst 1, 1) := by decide +kernel
theorem dX7_back_59 : decode cX7_back 59 = .ok (.istore_n 3, 1) := by decide +kernel
theorem dX7_back_60 : decode cX7_back 60 = .ok (.iload_n 3, 1) := by decide +kernel
theorem dX7_back_61 : decode cX7_back 61 = .ok (.sipush 1000, 3) := by decide +kernel
theorem dX7_back_64 : decode cX7_back 64 = .ok (.if_icmp .gt 79, 3) := by decide +kernel
theorem dX7_back_67 : decode cX7_back 67 = .ok (.aload_n 0, 1) := by decide +kernel
theorem dX7_back_68 : decode cX7_back 68 = .ok (.getfield 33, 3) := by decide +kernel
theorem dX7_back_71 : decode cX7_back 71 = .ok (.aload_n 0, 1) := by decide +kernel
theorem dX7_back_72 : decode cX7_back 72 = .ok (.getfield 47, 3) := by decide +kernel
theorem dX7_back_75 : decode cX7_back 75 = .ok (.invokevirtual 157, 3) := by decide +kernel
theorem dX7_back_78 : decode cX7_back 78 = .ok (.ifCond .ne 6, 3) := by decide +kernel
theorem dX7_back_81 : decode cX7_back 81 = .ok (.bipush (-2), 2) := by decide +kernel
theorem dX7_back_83 : decode cX7_back 83 = .ok (.ireturn, 1) := by decide +kernel
theorem dX7_back_84 : decode cX7_back 84 = .ok (.aload_n 0, 1) := by decide +kernel
theorem dX7_back_85 : decode cX7_back 85 = .ok (.getfield 47, 3) := by decide +kernel
theorem dX7_back_88 : decode cX7_back 88 = .ok (.getfield 150, 3) := by decide +kernel
theorem dX7_back_91 : decode cX7_back 91 = .ok (.iload_n 1, 1) := by decide +kernel
theorem dX7_back_92 : decode cX7_back 92 = .ok (.i2l, 1) := by decide +kernel
theorem dX7_back_93 : decode cX7_back 93 = .ok (.lsub, 1) := by decide +kernel
theorem dX7_back_94 : decode cX7_back 94 = .ok (.aload_n 0, 1) := by decide +kernel
theorem dX7_back_95 : decode cX7_back 95 = .ok (.getfield 47, 3) := by decide +kernel
theorem dX7_back_98 : decode cX7_back 98 = .ok (.getfield 154, 3) := by decide +kernel
theorem dX7_back_101 : decode cX7_back 101 = .ok (.iload_n 2, 1) := by decide +kernel
theorem dX7_back_102 : decode cX7_back 102 = .ok (.i2l, 1) := by decide +kernel
theorem dX7_back_103 : decode cX7_back 103 = .ok (.lsub, 1) := by decide +kernel
theorem dX7_back_104 : decode cX7_back 104 = .ok (.aload_n 0, 1) := by decide +kernel
theorem dX7_back_105 : decode cX7_back 105 = .ok (.getfield 7, 3) := by decide +kernel
theorem dX7_back_108 : decode cX7_back 108 = .ok (.invokestatic 85, 3) := by decide +kernel
theorem dX7_back_111 : decode cX7_back 111 = .ok (.ifCond .ge 26, 3) := by decide +kernel
theorem dX7_back_114 : decode cX7_back 114 = .ok (.aload_n 0, 1) := by decide +kernel
theorem dX7_back_115 : decode cX7_back 115 = .ok (.getfield 43, 3) := by decide +kernel
theorem dX7_back_118 : decode cX7_back 118 = .ok (.aload_n 0, 1) := by decide +kernel
theorem dX7_back_119 : decode cX7_back 119 = .ok (.getfield 47, 3) := by decide +kernel
theorem dX7_back_122 : decode cX7_back 122 = .ok (.getfield 150, 3) := by decide +kernel
theorem dX7_back_125 : decode cX7_back 125 = .ok (.aload_n 0, 1) := by decide +kernel
theorem dX7_back_126 : decode cX7_back 126 = .ok (.getfield 47, 3) := by decide +kernel
theorem dX7_back_129 : decode cX7_back 129 = .ok (.getfield 154, 3) := by decide +kernel
theorem dX7_back_132 : decode cX7_back 132 = .ok (.invokevirtual 142, 3) := by decide +kernel
theorem dX7_back_135 : decode cX7_back 135 = .ok (.iload_n 3, 1) := by decide +kernel
theorem dX7_back_136 : decode cX7_back 136 = .ok (.ireturn, 1) := by decide +kernel
theorem dX7_back_137 : decode cX7_back 137 = .ok (.iinc 3 1, 3) := by decide +kernel
theorem dX7_back_140 : decode cX7_back 140 = .ok (.goto (-80), 3) := by decide +kernel
theorem dX7_back_143 : decode cX7_back 143 = .ok (.bipush (-2), 2) := by decide +kernel
theorem dX7_back_145 : decode cX7_back 145 = .ok (.ireturn, 1) := by decide +kernel
theorem dX7_visits_0 : decode cX7_visits 0 = .ok (.aload_n 0, 1) := by decide +kernel
theorem dX7_visits_1 : decode cX7_visits 1 = .ok (.getfield 43, 3) := by decide +kernel
theorem dX7_visits_4 : decode cX7_visits 4 = .ok (.getfield 77, 3) := by decide +kernel
theorem dX7_visits_7 : decode cX7_visits 7 = .ok (.ifCond .eq 30, 3) := by decide +kernel
theorem dX7_visits_10 : decode cX7_visits 10 = .ok (.iload_n 1, 1) := by decide +kernel
theorem dX7_visits_11 : decode cX7_visits 11 = .ok (.ifCond .lt 26, 3) := by decide +kernel
theorem dX7_visits_14 : decode cX7_visits 14 = .ok (.iload_n 1, 1) := by decide +kernel
theorem dX7_visits_15 : decode cX7_visits 15 = .ok (.aload_n 0, 1) := by decide +kernel
theorem dX7_visits_16 : decode cX7_visits 16 = .ok (.getfield 23, 3) := by decide +kernel
theorem dX7_visits_19 : decode cX7_visits 19 = .ok (.getfield 74, 3) := by decide +kernel
theorem dX7_visits_22 : decode cX7_visits 22 = .ok (.if_icmp .ge 15, 3) := by decide +kernel
theorem dX7_visits_25 : decode cX7_visits 25 = .ok (.iload_n 2, 1) := by decide +kernel
theorem dX7_visits_26 : decode cX7_visits 26 = .ok (.iconst 1, 1) := by decide +kernel
theorem dX7_visits_27 : decode cX7_visits 27 = .ok (.if_icmp .lt 10, 3) := by decide +kernel
theorem dX7_visits_30 : decode cX7_visits 30 = .ok (.iload_n 2, 1) := by decide +kernel
theorem dX7_visits_31 : decode cX7_visits 31 = .ok (.sipush 1000, 3) := by decide +kernel
theorem dX7_visits_34 : decode cX7_visits 34 = .ok (.if_icmp .le 5, 3) := by decide +kernel
theorem dX7_visits_37 : decode cX7_visits 37 = .ok (.iconst (-1), 1) := by decide +kernel
theorem dX7_visits_38 : decode cX7_visits 38 = .ok (.ireturn, 1) := by decide +kernel
theorem dX7_visits_39 : decode cX7_visits 39 = .ok (.iconst 0, 1) := by decide +kernel
theorem dX7_visits_40 : decode cX7_visits 40 = .ok (.istore_n 3, 1) := by decide +kernel
theorem dX7_visits_41 : decode cX7_visits 41 = .ok (.aload_n 0, 1) := by decide +kernel
theorem dX7_visits_42 : decode cX7_visits 42 = .ok (.getfield 47, 3) := by decide +kernel
theorem dX7_visits_45 : decode cX7_visits 45 = .ok (.aload_n 0, 1) := by decide +kernel
theorem dX7_visits_46 : decode cX7_visits 46 = .ok (.getfield 43, 3) := by decide +kernel
theorem dX7_visits_49 : decode cX7_visits 49 = .ok (.getfield 150, 3) := by decide +kernel
theorem dX7_visits_52 : decode cX7_visits 52 = .ok (.aload_n 0, 1) := by decide +kernel
theorem dX7_visits_53 : decode cX7_visits 53 = .ok (.getfield 43, 3) := by decide +kernel
theorem dX7_visits_56 : decode cX7_visits 56 = .ok (.getfield 154, 3) := by decide +kernel
theorem dX7_visits_59 : decode cX7_visits 59 = .ok (.invokevirtual 142, 3) := by decide +kernel
theorem dX7_visits_62 : decode cX7_visits 62 = .ok (.iconst 1, 1) := by decide +kernel
theorem dX7_visits_63 : decode cX7_visits 63 = .ok (.istore 4, 2) := by decide +kernel
theorem dX7_visits_65 : decode cX7_visits 65 = .ok (.iload 4, 2) := by decide +kernel
theorem dX7_visits_67 : decode cX7_visits 67 = .ok (.iload_n 2, 1) := by decide +kernel
theorem dX7_visits_68 : decode cX7_visits 68 = .ok (.if_icmp .gt 55, 3) := by decide +kernel
theorem dX7_visits_71 : decode cX7_visits 71 = .ok (.aload_n 0, 1) := by decide +kernel
theorem dX7_visits_72 : decode cX7_visits 72 = .ok (.getfield 33, 3) := by decide +kernel
theorem dX7_visits_75 : decode cX7_visits 75 = .ok (.aload_n 0, 1) := by decide +kernel
theorem dX7_visits_76 : decode cX7_visits 76 = .ok (.getfield 47, 3) := by decide +kernel
theorem dX7_visits_79 : decode cX7_visits 79 = .ok (.invokevirtual 146, 3) := by decide +kernel
theorem dX7_visits_82 : decode cX7_visits 82 = .ok (.istore 5, 2) := by decide +kernel
theorem dX7_visits_84 : decode cX7_visits 84 = .ok (.iload 5, 2) := by decide +kernel
theorem dX7_visits_86 : decode cX7_visits 86 = .ok (.iload_n 1, 1) := by decide +kernel
theorem dX7_visits_87 : decode cX7_visits 87 = .ok (.if_icmp .ne 6, 3) := by decide +kernel
theorem dX7_visits_90 : decode cX7_visits 90 = .ok (.iinc 3 1, 3) := by decide +kernel
theorem dX7_visits_93 : decode cX7_visits 93 = .ok (.iload 4, 2) := by decide +kernel
theorem dX7_visits_95 : decode cX7_visits 95 = .ok (.iload_n 2, 1) := by decide +kernel
theorem dX7_visits_96 : decode cX7_visits 96 = .ok (.if_icmp .ge 21, 3) := by decide +kernel
theorem dX7_visits_99 : decode cX7_visits 99 = .ok (.aload_n 0, 1) := by decide +kernel
theorem dX7_visits_100 : decode cX7_visits 100 = .ok (.getfield 33, 3) := by decide +kernel
theorem dX7_visits_103 : decode cX7_visits 103 = .ok (.aload_n 0, 1) := by decide +kernel
theorem dX7_visits_104 : decode cX7_visits 104 = .ok (.getfield 47, 3) := by decide +kernel
theorem dX7_visits_107 : decode cX7_visits 107 = .ok (.iload 5, 2) := by decide +kernel
theorem dX7_visits_109 : decode cX7_visits 109 = .ok (.invokevirtual 163, 3) := by decide +kernel
theorem dX7_visits_112 : decode cX7_visits 112 = .ok (.ifCond .ne 5, 3) := by decide +kernel
theorem dX7_visits_115 : decode cX7_visits 115 = .ok (.iconst (-1), 1) := by decide +kernel
theorem dX7_visits_116 : decode cX7_visits 116 = .ok (.ireturn, 1) := by decide +kernel
theorem dX7_visits_117 : decode cX7_visits 117 = .ok (.iinc 4 1, 3) := by decide +kernel
theorem dX7_visits_120 : decode cX7_visits 120 = .ok (.goto (-55), 3) := by decide +kernel
theorem dX7_visits_123 : decode cX7_visits 123 = .ok (.iload_n 3, 1) := by decide +kernel
theorem dX7_visits_124 : decode cX7_visits 124 = .ok (.ireturn, 1) := by decide +kernel
theorem dX7_step_0 : decode cX7_step 0 = .ok (.aload_n 0, 1) := by decide +kernel
theorem dX7_step_1 : decode cX7_step 1 = .ok (.getfield 23, 3) := by decide +kernel
theorem dX7_step_4 : decode cX7_step 4 = .ok (.invokevirtual 167, 3) := by decide +kernel
theorem dX7_step_7 : decode cX7_step 7 = .ok (.istore_n 1, 1) := by decide +kernel
theorem dX7_step_8 : decode cX7_step 8 = .ok (.iload_n 1, 1) := by decide +kernel
theorem dX7_step_9 : decode cX7_step 9 = .ok (.ifCond .lt 7, 3) := by decide +kernel
theorem dX7_step_12 : decode cX7_step 12 = .ok (.aload_n 0, 1) := by decide +kernel
theorem dX7_step_13 : decode cX7_step 13 = .ok (.invokevirtual 170, 3) := by decide +kernel
theorem dX7_step_16 : decode cX7_step 16 = .ok (.iload_n 1, 1) := by decide +kernel
theorem dX7_step_17 : decode cX7_step 17 = .ok (.ireturn, 1) := by decide +kernel
theorem dX7_steps_0 : decode cX7_steps 0 = .ok (.aload_n 0, 1) := by decide +kernel
theorem dX7_steps_1 : decode cX7_steps 1 = .ok (.getfield 23, 3) := by decide +kernel
theorem dX7_steps_4 : decode cX7_steps 4 = .ok (.getfield 74, 3) := by decide +kernel
theorem dX7_steps_7 : decode cX7_steps 7 = .ok (.ifCond .eq 15, 3) := by decide +kernel
theorem dX7_steps_10 : decode cX7_steps 10 = .ok (.iload_n 1, 1) := by decide +kernel
theorem dX7_steps_11 : decode cX7_steps 11 = .ok (.iconst 1, 1) := by decide +kernel
theorem dX7_steps_12 : decode cX7_steps 12 = .ok (.if_icmp .lt 10, 3) := by decide +kernel
theorem dX7_steps_15 : decode cX7_steps 15 = .ok (.iload_n 1, 1) := by decide +kernel
theorem dX7_steps_16 : decode cX7_steps 16 = .ok (.sipush 1000, 3) := by decide +kernel
theorem dX7_steps_19 : decode cX7_steps 19 = .ok (.if_icmp .le 5, 3) := by decide +kernel
theorem dX7_steps_22 : decode cX7_steps 22 = .ok (.iconst (-1), 1) := by decide +kernel
theorem dX7_steps_23 : decode cX7_steps 23 = .ok (.ireturn, 1) := by decide +kernel
theorem dX7_steps_24 : decode cX7_steps 24 = .ok (.iconst 0, 1) := by decide +kernel
theorem dX7_steps_25 : decode cX7_steps 25 = .ok (.istore_n 2, 1) := by decide +kernel
theorem dX7_steps_26 : decode cX7_steps 26 = .ok (.iload_n 2, 1) := by decide +kernel
theorem dX7_steps_27 : decode cX7_steps 27 = .ok (.iload_n 1, 1) := by decide +kernel
theorem dX7_steps_28 : decode cX7_steps 28 = .ok (.if_icmp .ge 19, 3) := by decide +kernel
theorem dX7_steps_31 : decode cX7_steps 31 = .ok (.aload_n 0, 1) := by decide +kernel
theorem dX7_steps_32 : decode cX7_steps 32 = .ok (.getfield 23, 3) := by decide +kernel
theorem dX7_steps_35 : decode cX7_steps 35 = .ok (.invokevirtual 167, 3) := by decide +kernel
theorem dX7_steps_38 : decode cX7_steps 38 = .ok (.ifCond .lt 9, 3) := by decide +kernel
theorem dX7_steps_41 : decode cX7_steps 41 = .ok (.iinc 2 1, 3) := by decide +kernel
theorem dX7_steps_44 : decode cX7_steps 44 = .ok (.goto (-18), 3) := by decide +kernel
theorem dX7_steps_47 : decode cX7_steps 47 = .ok (.aload_n 0, 1) := by decide +kernel
theorem dX7_steps_48 : decode cX7_steps 48 = .ok (.invokevirtual 170, 3) := by decide +kernel
theorem dX7_steps_51 : decode cX7_steps 51 = .ok (.iload_n 2, 1) := by decide +kernel
theorem dX7_steps_52 : decode cX7_steps 52 = .ok (.ireturn, 1) := by decide +kernel
theorem dX7_table_0 : decode cX7_table 0 = .ok (.iload_n 1, 1) := by decide +kernel
theorem dX7_table_1 : decode cX7_table 1 = .ok (.ifCond .lt 29, 3) := by decide +kernel
theorem dX7_table_4 : decode cX7_table 4 = .ok (.iload_n 1, 1) := by decide +kernel
theorem dX7_table_5 : decode cX7_table 5 = .ok (.aload_n 0, 1) := by decide +kernel
theorem dX7_table_6 : decode cX7_table 6 = .ok (.getfield 23, 3) := by decide +kernel
theorem dX7_table_9 : decode cX7_table 9 = .ok (.getfield 74, 3) := by decide +kernel
theorem dX7_table_12 : decode cX7_table 12 = .ok (.if_icmp .ge 18, 3) := by decide +kernel
theorem dX7_table_15 : decode cX7_table 15 = .ok (.iload_n 2, 1) := by decide +kernel
theorem dX7_table_16 : decode cX7_table 16 = .ok (.ifCond .lt 14, 3) := by decide +kernel
theorem dX7_table_19 : decode cX7_table 19 = .ok (.iload_n 2, 1) := by decide +kernel
theorem dX7_table_20 : decode cX7_table 20 = .ok (.aload_n 0, 1) := by decide +kernel
theorem dX7_table_21 : decode cX7_table 21 = .ok (.getfield 23, 3) := by decide +kernel
theorem dX7_table_24 : decode cX7_table 24 = .ok (.getfield 74, 3) := by decide +kernel
theorem dX7_table_27 : decode cX7_table 27 = .ok (.if_icmp .lt 7, 3) := by decide +kernel
theorem dX7_table_30 : decode cX7_table 30 = .ok (.ldc2_w 173, 3) := by decide +kernel
theorem dX7_table_33 : decode cX7_table 33 = .ok (.lreturn, 1) := by decide +kernel
theorem dX7_table_34 : decode cX7_table 34 = .ok (.aload_n 0, 1) := by decide +kernel
theorem dX7_table_35 : decode cX7_table 35 = .ok (.getfield 23, 3) := by decide +kernel
theorem dX7_table_38 : decode cX7_table 38 = .ok (.getfield 175, 3) := by decide +kernel
theorem dX7_table_41 : decode cX7_table 41 = .ok (.iload_n 1, 1) := by decide +kernel
theorem dX7_table_42 : decode cX7_table 42 = .ok (.bipush 8, 2) := by decide +kernel
theorem dX7_table_44 : decode cX7_table 44 = .ok (.imul, 1) := by decide +kernel
theorem dX7_table_45 : decode cX7_table 45 = .ok (.iload_n 2, 1) := by decide +kernel
theorem dX7_table_46 : decode cX7_table 46 = .ok (.iadd, 1) := by decide +kernel
theorem dX7_table_47 : decode cX7_table 47 = .ok (.laload, 1) := by decide +kernel
theorem dX7_table_48 : decode cX7_table 48 = .ok (.lreturn, 1) := by decide +kernel
theorem dX7_loop_0 : decode cX7_loop 0 = .ok (.aload_n 0, 1) := by decide +kernel
theorem dX7_loop_1 : decode cX7_loop 1 = .ok (.getfield 23, 3) := by decide +kernel
theorem dX7_loop_4 : decode cX7_loop 4 = .ok (.getfield 74, 3) := by decide +kernel
theorem dX7_loop_7 : decode cX7_loop 7 = .ok (.ifCond .ne 5, 3) := by decide +kernel
theorem dX7_loop_10 : decode cX7_loop 10 = .ok (.iconst (-1), 1) := by decide +kernel
theorem dX7_loop_11 : decode cX7_loop 11 = .ok (.ireturn, 1) := by decide +kernel
theorem dX7_loop_12 : decode cX7_loop 12 = .ok (.aload_n 0, 1) := by decide +kernel
theorem dX7_loop_13 : decode cX7_loop 13 = .ok (.getfield 27, 3) := by decide +kernel
theorem dX7_loop_16 : decode cX7_loop 16 = .ok (.aload_n 0, 1) := by decide +kernel
theorem dX7_loop_17 : decode cX7_loop 17 = .ok (.getfield 23, 3) := by decide +kernel
theorem dX7_loop_20 : decode cX7_loop 20 = .ok (.invokevirtual 178, 3) := by decide +kernel
theorem dX7_loop_23 : decode cX7_loop 23 = .ok (.iconst 1, 1) := by decide +kernel
theorem dX7_loop_24 : decode cX7_loop 24 = .ok (.istore_n 1, 1) := by decide +kernel
theorem dX7_loop_25 : decode cX7_loop 25 = .ok (.iload_n 1, 1) := by decide +kernel
theorem dX7_loop_26 : decode cX7_loop 26 = .ok (.sipush 300, 3) := by decide +kernel
theorem dX7_loop_29 : decode cX7_loop 29 = .ok (.if_icmp .gt 51, 3) := by decide +kernel
theorem dX7_loop_32 : decode cX7_loop 32 = .ok (.aload_n 0, 1) := by decide +kernel
theorem dX7_loop_33 : decode cX7_loop 33 = .ok (.getfield 27, 3) := by decide +kernel
theorem dX7_loop_36 : decode cX7_loop 36 = .ok (.invokevirtual 167, 3) := by decide +kernel
theorem dX7_loop_39 : decode cX7_loop 39 = .ok (.ifCond .ge 5, 3) := by decide +kernel
theorem dX7_loop_42 : decode cX7_loop 42 = .ok (.iconst 0, 1) := by decide +kernel
theorem dX7_loop_43 : decode cX7_loop 43 = .ok (.ireturn, 1) := by decide +kernel
theorem dX7_loop_44 : decode cX7_loop 44 = .ok (.aload_n 0, 1) := by decide +kernel
theorem dX7_loop_45 : decode cX7_loop 45 = .ok (.getfield 27, 3) := by decide +kernel
theorem dX7_loop_48 : decode cX7_loop 48 = .ok (.aload_n 0, 1) := by decide +kernel
theorem dX7_loop_49 : decode cX7_loop 49 = .ok (.getfield 23, 3) := by decide +kernel
theorem dX7_loop_52 : decode cX7_loop 52 = .ok (.invokevirtual 182, 3) := by decide +kernel
theorem dX7_loop_55 : decode cX7_loop 55 = .ok (.ifCond .eq 19, 3) := by decide +kernel
theorem dX7_loop_58 : decode cX7_loop 58 = .ok (.aload_n 0, 1) := by decide +kernel
theorem dX7_loop_59 : decode cX7_loop 59 = .ok (.getfield 27, 3) := by decide +kernel
theorem dX7_loop_62 : decode cX7_loop 62 = .ok (.aload_n 0, 1) := by decide +kernel
theorem dX7_loop_63 : decode cX7_loop 63 = .ok (.getfield 23, 3) := by decide +kernel
theorem dX7_loop_66 : decode cX7_loop 66 = .ok (.invokevirtual 186, 3) := by decide +kernel
theorem dX7_loop_69 : decode cX7_loop 69 = .ok (.ifCond .eq 5, 3) := by decide +kernel
theorem dX7_loop_72 : decode cX7_loop 72 = .ok (.iload_n 1, 1) := by decide +kernel
theorem dX7_loop_73 : decode cX7_loop 73 = .ok (.ireturn, 1) := by decide +kernel
theorem dX7_loop_74 : decode cX7_loop 74 = .ok (.iinc 1 1, 3) := by decide +kernel
theorem dX7_loop_77 : decode cX7_loop 77 = .ok (.goto (-52), 3) := by decide +kernel
theorem dX7_loop_80 : decode cX7_loop 80 = .ok (.iconst 0, 1) := by decide +kernel
theorem dX7_loop_81 : decode cX7_loop 81 = .ok (.ireturn, 1) := by decide +kernel
theorem dX7_rounds_0 : decode cX7_rounds 0 = .ok (.aload_n 0, 1) := by decide +kernel
theorem dX7_rounds_1 : decode cX7_rounds 1 = .ok (.getfield 23, 3) := by decide +kernel
theorem dX7_rounds_4 : decode cX7_rounds 4 = .ok (.getfield 74, 3) := by decide +kernel
theorem dX7_rounds_7 : decode cX7_rounds 7 = .ok (.ifCond .ne 5, 3) := by decide +kernel
theorem dX7_rounds_10 : decode cX7_rounds 10 = .ok (.iconst (-1), 1) := by decide +kernel
theorem dX7_rounds_11 : decode cX7_rounds 11 = .ok (.ireturn, 1) := by decide +kernel
theorem dX7_rounds_12 : decode cX7_rounds 12 = .ok (.aload_n 0, 1) := by decide +kernel
theorem dX7_rounds_13 : decode cX7_rounds 13 = .ok (.getfield 33, 3) := by decide +kernel
theorem dX7_rounds_16 : decode cX7_rounds 16 = .ok (.getfield 122, 3) := by decide +kernel
theorem dX7_rounds_19 : decode cX7_rounds 19 = .ok (.aload_n 0, 1) := by decide +kernel
theorem dX7_rounds_20 : decode cX7_rounds 20 = .ok (.getfield 23, 3) := by decide +kernel
theorem dX7_rounds_23 : decode cX7_rounds 23 = .ok (.getfield 74, 3) := by decide +kernel
theorem dX7_rounds_26 : decode cX7_rounds 26 = .ok (.laload, 1) := by decide +kernel
theorem dX7_rounds_27 : decode cX7_rounds 27 = .ok (.lstore_n 1, 1) := by decide +kernel
theorem dX7_rounds_28 : decode cX7_rounds 28 = .ok (.aload_n 0, 1) := by decide +kernel
theorem dX7_rounds_29 : decode cX7_rounds 29 = .ok (.getfield 7, 3) := by decide +kernel
theorem dX7_rounds_32 : decode cX7_rounds 32 = .ok (.ifCond .ne 11, 3) := by decide +kernel
theorem dX7_rounds_35 : decode cX7_rounds 35 = .ok (.lload_n 1, 1) := by decide +kernel
theorem dX7_rounds_36 : decode cX7_rounds 36 = .ok (.ldc2_w 189, 3) := by decide +kernel
theorem dX7_rounds_39 : decode cX7_rounds 39 = .ok (.lcmp, 1) := by decide +kernel
theorem dX7_rounds_40 : decode cX7_rounds 40 = .ok (.ifCond .le 6, 3) := by decide +kernel
theorem dX7_rounds_43 : decode cX7_rounds 43 = .ok (.bipush (-2), 2) := by decide +kernel
theorem dX7_rounds_45 : decode cX7_rounds 45 = .ok (.ireturn, 1) := by decide +kernel
theorem dX7_rounds_46 : decode cX7_rounds 46 = .ok (.aload_n 0, 1) := by decide +kernel
theorem dX7_rounds_47 : decode cX7_rounds 47 = .ok (.getfield 53, 3) := by decide +kernel
theorem dX7_rounds_50 : decode cX7_rounds 50 = .ok (.aload_n 0, 1) := by decide +kernel
theorem dX7_rounds_51 : decode cX7_rounds 51 = .ok (.getfield 33, 3) := by decide +kernel
theorem dX7_rounds_54 : decode cX7_rounds 54 = .ok (.lload_n 1, 1) := by decide +kernel
theorem dX7_rounds_55 : decode cX7_rounds 55 = .ok (.l2i, 1) := by decide +kernel
theorem dX7_rounds_56 : decode cX7_rounds 56 = .ok (.invokevirtual 191, 3) := by decide +kernel
theorem dX7_rounds_59 : decode cX7_rounds 59 = .ok (.aload_n 0, 1) := by decide +kernel
theorem dX7_rounds_60 : decode cX7_rounds 60 = .ok (.getfield 53, 3) := by decide +kernel
theorem dX7_rounds_63 : decode cX7_rounds 63 = .ok (.getfield 195, 3) := by decide +kernel
theorem dX7_rounds_66 : decode cX7_rounds 66 = .ok (.ireturn, 1) := by decide +kernel
theorem dX7_round_0 : decode cX7_round 0 = .ok (.iload_n 1, 1) := by decide +kernel
theorem dX7_round_1 : decode cX7_round 1 = .ok (.ifCond .lt 14, 3) := by decide +kernel
theorem dX7_round_4 : decode cX7_round 4 = .ok (.iload_n 1, 1) := by decide +kernel
theorem dX7_round_5 : decode cX7_round 5 = .ok (.aload_n 0, 1) := by decide +kernel
theorem dX7_round_6 : decode cX7_round 6 = .ok (.getfield 53, 3) := by decide +kernel
theorem dX7_round_9 : decode cX7_round 9 = .ok (.getfield 195, 3) := by decide +kernel
theorem dX7_round_12 : decode cX7_round 12 = .ok (.if_icmp .lt 5, 3) := by decide +kernel
theorem dX7_round_15 : decode cX7_round 15 = .ok (.iconst (-1), 1) := by decide +kernel
theorem dX7_round_16 : decode cX7_round 16 = .ok (.ireturn, 1) := by decide +kernel
theorem dX7_round_17 : decode cX7_round 17 = .ok (.iload_n 2, 1) := by decide +kernel
theorem dX7_round_18 : decode cX7_round 18 = .ok (.tableswitch 56 0 2 #[26, 36, 46], 26) := by decide +kernel
theorem dX7_round_44 : decode cX7_round 44 = .ok (.aload_n 0, 1) := by decide +kernel
theorem dX7_round_45 : decode cX7_round 45 = .ok (.getfield 53, 3) := by decide +kernel
theorem dX7_round_48 : decode cX7_round 48 = .ok (.getfield 196, 3) := by decide +kernel
theorem dX7_round_51 : decode cX7_round 51 = .ok (.iload_n 1, 1) := by decide +kernel
theorem dX7_round_52 : decode cX7_round 52 = .ok (.iaload, 1) := by decide +kernel
theorem dX7_round_53 : decode cX7_round 53 = .ok (.ireturn, 1) := by decide +kernel
theorem dX7_round_54 : decode cX7_round 54 = .ok (.aload_n 0, 1) := by decide +kernel
theorem dX7_round_55 : decode cX7_round 55 = .ok (.getfield 53, 3) := by decide +kernel
theorem dX7_round_58 : decode cX7_round 58 = .ok (.getfield 199, 3) := by decide +kernel
theorem dX7_round_61 : decode cX7_round 61 = .ok (.iload_n 1, 1) := by decide +kernel
theorem dX7_round_62 : decode cX7_round 62 = .ok (.iaload, 1) := by decide +kernel
theorem dX7_round_63 : decode cX7_round 63 = .ok (.ireturn, 1) := by decide +kernel
theorem dX7_round_64 : decode cX7_round 64 = .ok (.aload_n 0, 1) := by decide +kernel
theorem dX7_round_65 : decode cX7_round 65 = .ok (.getfield 53, 3) := by decide +kernel
theorem dX7_round_68 : decode cX7_round 68 = .ok (.getfield 202, 3) := by decide +kernel
theorem dX7_round_71 : decode cX7_round 71 = .ok (.iload_n 1, 1) := by decide +kernel
theorem dX7_round_72 : decode cX7_round 72 = .ok (.iaload, 1) := by decide +kernel
theorem dX7_round_73 : decode cX7_round 73 = .ok (.ireturn, 1) := by decide +kernel
theorem dX7_round_74 : decode cX7_round 74 = .ok (.iconst (-1), 1) := by decide +kernel
theorem dX7_round_75 : decode cX7_round 75 = .ok (.ireturn, 1) := by decide +kernel
theorem dX7_words_0 : decode cX7_words 0 = .ok (.aload_n 0, 1) := by decide +kernel
theorem dX7_words_1 : decode cX7_words 1 = .ok (.getfield 23, 3) := by decide +kernel
theorem dX7_words_4 : decode cX7_words 4 = .ok (.getfield 74, 3) := by decide +kernel
theorem dX7_words_7 : decode cX7_words 7 = .ok (.ifCond .ne 5, 3) := by decide +kernel
theorem dX7_words_10 : decode cX7_words 10 = .ok (.iconst (-1), 1) := by decide +kernel
theorem dX7_words_11 : decode cX7_words 11 = .ok (.ireturn, 1) := by decide +kernel
theorem dX7_words_12 : decode cX7_words 12 = .ok (.iload_n 1, 1) := by decide +kernel
theorem dX7_words_13 : decode cX7_words 13 = .ok (.iconst 1, 1) := by decide +kernel
theorem dX7_words_14 : decode cX7_words 14 = .ok (.if_icmp .lt 9, 3) := by decide +kernel
theorem dX7_words_17 : decode cX7_words 17 = .ok (.iload_n 1, 1) := by decide +kernel
theorem dX7_words_18 : decode cX7_words 18 = .ok (.bipush 10, 2) := by decide +kernel
theorem dX7_words_20 : decode cX7_words 20 = .ok (.if_icmp .le 6, 3) := by decide +kernel
theorem dX7_words_23 : decode cX7_words 23 = .ok (.bipush (-2), 2) := by decide +kernel
theorem dX7_words_25 : decode cX7_words 25 = .ok (.ireturn, 1) := by decide +kernel
theorem dX7_words_26 : decode cX7_words 26 = .ok (.iconst 0, 1) := by decide +kernel
theorem dX7_words_27 : decode cX7_words 27 = .ok (.istore_n 2, 1) := by decide +kernel
theorem dX7_words_28 : decode cX7_words 28 = .ok (.iconst 0, 1) := by decide +kernel
theorem dX7_words_29 : decode cX7_words 29 = .ok (.istore_n 3, 1) := by decide +kernel
theorem dX7_words_30 : decode cX7_words 30 = .ok (.iload_n 3, 1) := by decide +kernel
theorem dX7_words_31 : decode cX7_words 31 = .ok (.aload_n 0, 1) := by decide +kernel
theorem dX7_words_32 : decode cX7_words 32 = .ok (.getfield 23, 3) := by decide +kernel
theorem dX7_words_35 : decode cX7_words 35 = .ok (.getfield 74, 3) := by decide +kernel
theorem dX7_words_38 : decode cX7_words 38 = .ok (.if_icmp .ge 18, 3) := by decide +kernel
theorem dX7_words_41 : decode cX7_words 41 = .ok (.iload_n 2, 1) := by decide +kernel
theorem dX7_words_42 : decode cX7_words 42 = .ok (.aload_n 0, 1) := by decide +kernel
theorem dX7_words_43 : decode cX7_words 43 = .ok (.iload_n 3, 1) := by decide +kernel
theorem dX7_words_44 : decode cX7_words 44 = .ok (.iload_n 1, 1) := by decide +kernel
theorem dX7_words_45 : decode cX7_words 45 = .ok (.invokevirtual 205, 3) := by decide +kernel
theorem dX7_words_48 : decode cX7_words 48 = .ok (.iadd, 1) := by decide +kernel
theorem dX7_words_49 : decode cX7_words 49 = .ok (.istore_n 2, 1) := by decide +kernel
theorem dX7_words_50 : decode cX7_words 50 = .ok (.iinc 3 1, 3) := by decide +kernel
theorem dX7_words_53 : decode cX7_words 53 = .ok (.goto (-23), 3) := by decide +kernel
theorem dX7_words_56 : decode cX7_words 56 = .ok (.iload_n 2, 1) := by decide +kernel
theorem dX7_words_57 : decode cX7_words 57 = .ok (.ireturn, 1) := by decide +kernel
theorem dX7_classes_0 : decode cX7_classes 0 = .ok (.aload_n 0, 1) := by decide +kernel
theorem dX7_classes_1 : decode cX7_classes 1 = .ok (.getfield 23, 3) := by decide +kernel
theorem dX7_classes_4 : decode cX7_classes 4 = .ok (.getfield 74, 3) := by decide +kernel
theorem dX7_classes_7 : decode cX7_classes 7 = .ok (.ifCond .ne 5, 3) := by decide +kernel
theorem dX7_classes_10 : decode cX7_classes 10 = .ok (.iconst (-1), 1) := by decide +kernel
theorem dX7_classes_11 : decode cX7_classes 11 = .ok (.ireturn, 1) := by decide +kernel
theorem dX7_classes_12 : decode cX7_classes 12 = .ok (.aload_n 0, 1) := by decide +kernel
theorem dX7_classes_13 : decode cX7_classes 13 = .ok (.getfield 23, 3) := by decide +kernel
theorem dX7_classes_16 : decode cX7_classes 16 = .ok (.getfield 74, 3) := by decide +kernel
theorem dX7_classes_19 : decode cX7_classes 19 = .ok (.bipush 6, 2) := by decide +kernel
theorem dX7_classes_21 : decode cX7_classes 21 = .ok (.if_icmp .le 6, 3) := by decide +kernel
theorem dX7_classes_24 : decode cX7_classes 24 = .ok (.bipush (-2), 2) := by decide +kernel
theorem dX7_classes_26 : decode cX7_classes 26 = .ok (.ireturn, 1) := by decide +kernel
theorem dX7_classes_27 : decode cX7_classes 27 = .ok (.aload_n 0, 1) := by decide +kernel
theorem dX7_classes_28 : decode cX7_classes 28 = .ok (.getfield 60, 3) := by decide +kernel
theorem dX7_classes_31 : decode cX7_classes 31 = .ok (.aload_n 0, 1) := by decide +kernel
theorem dX7_classes_32 : decode cX7_classes 32 = .ok (.getfield 23, 3) := by decide +kernel
theorem dX7_classes_35 : decode cX7_classes 35 = .ok (.invokevirtual 209, 3) := by decide +kernel
theorem dX7_classes_38 : decode cX7_classes 38 = .ok (.ireturn, 1) := by decide +kernel
theorem dX7_ground_0 : decode cX7_ground 0 = .ok (.aload_n 0, 1) := by decide +kernel
theorem dX7_ground_1 : decode cX7_ground 1 = .ok (.getfield 23, 3) := by decide +kernel
theorem dX7_ground_4 : decode cX7_ground 4 = .ok (.getfield 74, 3) := by decide +kernel
theorem dX7_ground_7 : decode cX7_ground 7 = .ok (.ifCond .eq 12, 3) := by decide +kernel
theorem dX7_ground_10 : decode cX7_ground 10 = .ok (.iload_n 1, 1) := by decide +kernel
theorem dX7_ground_11 : decode cX7_ground 11 = .ok (.ifCond .lt 8, 3) := by decide +kernel
theorem dX7_ground_14 : decode cX7_ground 14 = .ok (.iload_n 1, 1) := by decide +kernel
theorem dX7_ground_15 : decode cX7_ground 15 = .ok (.iconst 3, 1) := by decide +kernel
theorem dX7_ground_16 : decode cX7_ground 16 = .ok (.if_icmp .le 5, 3) := by decide +kernel
theorem dX7_ground_19 : decode cX7_ground 19 = .ok (.iconst (-1), 1) := by decide +kernel
theorem dX7_ground_20 : decode cX7_ground 20 = .ok (.ireturn, 1) := by decide +kernel
theorem dX7_ground_21 : decode cX7_ground 21 = .ok (.aload_n 0, 1) := by decide +kernel
theorem dX7_ground_22 : decode cX7_ground 22 = .ok (.getfield 67, 3) := by decide +kernel
theorem dX7_ground_25 : decode cX7_ground 25 = .ok (.aload_n 0, 1) := by decide +kernel
theorem dX7_ground_26 : decode cX7_ground 26 = .ok (.getfield 23, 3) := by decide +kernel
theorem dX7_ground_29 : decode cX7_ground 29 = .ok (.invokevirtual 213, 3) := by decide +kernel
theorem dX7_ground_32 : decode cX7_ground 32 = .ok (.iload_n 1, 1) := by decide +kernel
theorem dX7_ground_33 : decode cX7_ground 33 = .ok (.tableswitch 63 0 2 #[27, 35, 55], 27) := by decide +kernel
theorem dX7_ground_60 : decode cX7_ground 60 = .ok (.aload_n 0, 1) := by decide +kernel
theorem dX7_ground_61 : decode cX7_ground 61 = .ok (.getfield 67, 3) := by decide +kernel
theorem dX7_ground_64 : decode cX7_ground 64 = .ok (.invokevirtual 216, 3) := by decide +kernel
theorem dX7_ground_67 : decode cX7_ground 67 = .ok (.ireturn, 1) := by decide +kernel
theorem dX7_ground_68 : decode cX7_ground 68 = .ok (.iconst 1, 1) := by decide +kernel
theorem dX7_ground_69 : decode cX7_ground 69 = .ok (.aload_n 0, 1) := by decide +kernel
theorem dX7_ground_70 : decode cX7_ground 70 = .ok (.getfield 23, 3) := by decide +kernel
theorem dX7_ground_73 : decode cX7_ground 73 = .ok (.getfield 74, 3) := by decide +kernel
theorem dX7_ground_76 : decode cX7_ground 76 = .ok (.iadd, 1) := by decide +kernel
theorem dX7_ground_77 : decode cX7_ground 77 = .ok (.aload_n 0, 1) := by decide +kernel
theorem dX7_ground_78 : decode cX7_ground 78 = .ok (.getfield 67, 3) := by decide +kernel
theorem dX7_ground_81 : decode cX7_ground 81 = .ok (.invokevirtual 216, 3) := by decide +kernel
theorem dX7_ground_84 : decode cX7_ground 84 = .ok (.isub, 1) := by decide +kernel
theorem dX7_ground_85 : decode cX7_ground 85 = .ok (.iconst 2, 1) := by decide +kernel
theorem dX7_ground_86 : decode cX7_ground 86 = .ok (.idiv, 1) := by decide +kernel
theorem dX7_ground_87 : decode cX7_ground 87 = .ok (.ireturn, 1) := by decide +kernel
theorem dX7_ground_88 : decode cX7_ground 88 = .ok (.aload_n 0, 1) := by decide +kernel
theorem dX7_ground_89 : decode cX7_ground 89 = .ok (.getfield 67, 3) := by decide +kernel
theorem dX7_ground_92 : decode cX7_ground 92 = .ok (.invokevirtual 219, 3) := by decide +kernel
theorem dX7_ground_95 : decode cX7_ground 95 = .ok (.ireturn, 1) := by decide +kernel
theorem dX7_ground_96 : decode cX7_ground 96 = .ok (.aload_n 0, 1) := by decide +kernel
theorem dX7_ground_97 : decode cX7_ground 97 = .ok (.getfield 67, 3) := by decide +kernel
theorem dX7_ground_100 : decode cX7_ground 100 = .ok (.invokevirtual 222, 3) := by decide +kernel
theorem dX7_ground_103 : decode cX7_ground 103 = .ok (.ireturn, 1) := by decide +kernel
theorem dX7_canBe_0 : decode cX7_canBe 0 = .ok (.iload_n 1, 1) := by decide +kernel
theorem dX7_canBe_1 : decode cX7_canBe 1 = .ok (.i2l, 1) := by decide +kernel
theorem dX7_canBe_2 : decode cX7_canBe 2 = .ok (.iload_n 3, 1) := by decide +kernel
theorem dX7_canBe_3 : decode cX7_canBe 3 = .ok (.invokestatic 225, 3) := by decide +kernel
theorem dX7_canBe_6 : decode cX7_canBe 6 = .ok (.ifCond .eq 27, 3) := by decide +kernel
theorem dX7_canBe_9 : decode cX7_canBe 9 = .ok (.iload_n 2, 1) := by decide +kernel
theorem dX7_canBe_10 : decode cX7_canBe 10 = .ok (.i2l, 1) := by decide +kernel
theorem dX7_canBe_11 : decode cX7_canBe 11 = .ok (.iload_n 3, 1) := by decide +kernel
theorem dX7_canBe_12 : decode cX7_canBe 12 = .ok (.invokestatic 225, 3) := by decide +kernel
theorem dX7_canBe_15 : decode cX7_canBe 15 = .ok (.ifCond .eq 18, 3) := by decide +kernel
theorem dX7_canBe_18 : decode cX7_canBe 18 = .ok (.aload_n 0, 1) := by decide +kernel
theorem dX7_canBe_19 : decode cX7_canBe 19 = .ok (.getfield 7, 3) := by decide +kernel
theorem dX7_canBe_22 : decode cX7_canBe 22 = .ok (.ifCond .ne 7, 3) := by decide +kernel
theorem dX7_canBe_25 : decode cX7_canBe 25 = .ok (.iload_n 2, 1) := by decide +kernel
theorem dX7_canBe_26 : decode cX7_canBe 26 = .ok (.ifCond .ne 7, 3) := by decide +kernel
theorem dX7_canBe_29 : decode cX7_canBe 29 = .ok (.iconst 1, 1) := by decide +kernel
theorem dX7_canBe_30 : decode cX7_canBe 30 = .ok (.goto 4, 3) := by decide +kernel
theorem dX7_canBe_33 : decode cX7_canBe 33 = .ok (.iconst 0, 1) := by decide +kernel
theorem dX7_canBe_34 : decode cX7_canBe 34 = .ok (.ireturn, 1) := by decide +kernel
theorem dX7_drawWays_0 : decode cX7_drawWays 0 = .ok (.aload_n 0, 1) := by decide +kernel
theorem dX7_drawWays_1 : decode cX7_drawWays 1 = .ok (.getfield 33, 3) := by decide +kernel
theorem dX7_drawWays_4 : decode cX7_drawWays 4 = .ok (.aload_n 0, 1) := by decide +kernel
theorem dX7_drawWays_5 : decode cX7_drawWays 5 = .ok (.getfield 23, 3) := by decide +kernel
theorem dX7_drawWays_8 : decode cX7_drawWays 8 = .ok (.aload_n 0, 1) := by decide +kernel
theorem dX7_drawWays_9 : decode cX7_drawWays 9 = .ok (.getfield 23, 3) := by decide +kernel
theorem dX7_drawWays_12 : decode cX7_drawWays 12 = .ok (.getfield 131, 3) := by decide +kernel
theorem dX7_drawWays_15 : decode cX7_drawWays 15 = .ok (.aload_n 0, 1) := by decide +kernel
theorem dX7_drawWays_16 : decode cX7_drawWays 16 = .ok (.getfield 23, 3) := by decide +kernel
theorem dX7_drawWays_19 : decode cX7_drawWays 19 = .ok (.getfield 134, 3) := by decide +kernel
theorem dX7_drawWays_22 : decode cX7_drawWays 22 = .ok (.invokevirtual 229, 3) := by decide +kernel
theorem dX7_drawWays_25 : decode cX7_drawWays 25 = .ok (.aload_n 0, 1) := by decide +kernel
theorem dX7_drawWays_26 : decode cX7_drawWays 26 = .ok (.getfield 37, 3) := by decide +kernel
theorem dX7_drawWays_29 : decode cX7_drawWays 29 = .ok (.aload_n 0, 1) := by decide +kernel
theorem dX7_drawWays_30 : decode cX7_drawWays 30 = .ok (.getfield 23, 3) := by decide +kernel
theorem dX7_drawWays_33 : decode cX7_drawWays 33 = .ok (.aload_n 0, 1) := by decide +kernel
theorem dX7_drawWays_34 : decode cX7_drawWays 34 = .ok (.getfield 23, 3) := by decide +kernel
theorem dX7_drawWays_37 : decode cX7_drawWays 37 = .ok (.getfield 134, 3) := by decide +kernel
theorem dX7_drawWays_40 : decode cX7_drawWays 40 = .ok (.aload_n 0, 1) := by decide +kernel
theorem dX7_drawWays_41 : decode cX7_drawWays 41 = .ok (.getfield 23, 3) := by decide +kernel
theorem dX7_drawWays_44 : decode cX7_drawWays 44 = .ok (.getfield 131, 3) := by decide +kernel
theorem dX7_drawWays_47 : decode cX7_drawWays 47 = .ok (.invokevirtual 229, 3) := by decide +kernel
theorem dX7_drawWays_50 : decode cX7_drawWays 50 = .ok (.return_, 1) := by decide +kernel
theorem dX7_followMover_0 : decode cX7_followMover 0 = .ok (.aload_n 0, 1) := by decide +kernel
theorem dX7_followMover_1 : decode cX7_followMover 1 = .ok (.invokevirtual 109, 3) := by decide +kernel
theorem dX7_followMover_4 : decode cX7_followMover 4 = .ok (.aload_n 0, 1) := by decide +kernel
theorem dX7_followMover_5 : decode cX7_followMover 5 = .ok (.getfield 43, 3) := by decide +kernel
theorem dX7_followMover_8 : decode cX7_followMover 8 = .ok (.aload_n 0, 1) := by decide +kernel
theorem dX7_followMover_9 : decode cX7_followMover 9 = .ok (.getfield 43, 3) := by decide +kernel
theorem dX7_followMover_12 : decode cX7_followMover 12 = .ok (.getfield 77, 3) := by decide +kernel
theorem dX7_followMover_15 : decode cX7_followMover 15 = .ok (.ifCond .eq 31, 3) := by decide +kernel
theorem dX7_followMover_18 : decode cX7_followMover 18 = .ok (.aload_n 0, 1) := by decide +kernel
theorem dX7_followMover_19 : decode cX7_followMover 19 = .ok (.getfield 33, 3) := by decide +kernel
theorem dX7_followMover_22 : decode cX7_followMover 22 = .ok (.aload_n 0, 1) := by decide +kernel
theorem dX7_followMover_23 : decode cX7_followMover 23 = .ok (.getfield 43, 3) := by decide +kernel
theorem dX7_followMover_26 : decode cX7_followMover 26 = .ok (.getfield 150, 3) := by decide +kernel
theorem dX7_followMover_29 : decode cX7_followMover 29 = .ok (.aload_n 0, 1) := by decide +kernel
theorem dX7_followMover_30 : decode cX7_followMover 30 = .ok (.getfield 43, 3) := by decide +kernel
theorem dX7_followMover_33 : decode cX7_followMover 33 = .ok (.getfield 154, 3) := by decide +kernel
theorem dX7_followMover_36 : decode cX7_followMover 36 = .ok (.invokevirtual 138, 3) := by decide +kernel
theorem dX7_followMover_39 : decode cX7_followMover 39 = .ok (.ifCond .eq 7, 3) := by decide +kernel
theorem dX7_followMover_42 : decode cX7_followMover 42 = .ok (.iconst 1, 1) := by decide +kernel
theorem dX7_followMover_43 : decode cX7_followMover 43 = .ok (.goto 4, 3) := by decide +kernel
theorem dX7_followMover_46 : decode cX7_followMover 46 = .ok (.iconst 0, 1) := by decide +kernel
theorem dX7_followMover_47 : decode cX7_followMover 47 = .ok (.putfield 77, 3) := by decide +kernel
theorem dX7_followMover_50 : decode cX7_followMover 50 = .ok (.return_, 1) := by decide +kernel
theorem dX7_beginningsBehind_0 : decode cX7_beginningsBehind 0 = .ok (.aload_n 0, 1) := by decide +kernel
theorem dX7_beginningsBehind_1 : decode cX7_beginningsBehind 1 = .ok (.getfield 47, 3) := by decide +kernel
theorem dX7_beginningsBehind_4 : decode cX7_beginningsBehind 4 = .ok (.aload_n 0, 1) := by decide +kernel
theorem dX7_beginningsBehind_5 : decode cX7_beginningsBehind 5 = .ok (.getfield 33, 3) := by decide +kernel
theorem dX7_beginningsBehind_8 : decode cX7_beginningsBehind 8 = .ok (.getfield 122, 3) := by decide +kernel
theorem dX7_beginningsBehind_11 : decode cX7_beginningsBehind 11 = .ok (.iload_n 1, 1) := by decide +kernel
theorem dX7_beginningsBehind_12 : decode cX7_beginningsBehind 12 = .ok (.laload, 1) := by decide +kernel
theorem dX7_beginningsBehind_13 : decode cX7_beginningsBehind 13 = .ok (.aload_n 0, 1) := by decide +kernel
theorem dX7_beginningsBehind_14 : decode cX7_beginningsBehind 14 = .ok (.getfield 33, 3) := by decide +kernel
theorem dX7_beginningsBehind_17 : decode cX7_beginningsBehind 17 = .ok (.getfield 126, 3) := by decide +kernel
theorem dX7_beginningsBehind_20 : decode cX7_beginningsBehind 20 = .ok (.iload_n 1, 1) := by decide +kernel
theorem dX7_beginningsBehind_21 : decode cX7_beginningsBehind 21 = .ok (.laload, 1) := by decide +kernel
theorem dX7_beginningsBehind_22 : decode cX7_beginningsBehind 22 = .ok (.invokevirtual 142, 3) := by decide +kernel
theorem dX7_beginningsBehind_25 : decode cX7_beginningsBehind 25 = .ok (.iconst 1, 1) := by decide +kernel
theorem dX7_beginningsBehind_26 : decode cX7_beginningsBehind 26 = .ok (.istore_n 3, 1) := by decide +kernel
theorem dX7_beginningsBehind_27 : decode cX7_beginningsBehind 27 = .ok (.iload_n 3, 1) := by decide +kernel
theorem dX7_beginningsBehind_28 : decode cX7_beginningsBehind 28 = .ok (.iload_n 2, 1) := by decide +kernel
theorem dX7_beginningsBehind_29 : decode cX7_beginningsBehind 29 = .ok (.if_icmp .ge 39, 3) := by decide +kernel
theorem dX7_beginningsBehind_32 : decode cX7_beginningsBehind 32 = .ok (.aload_n 0, 1) := by decide +kernel
theorem dX7_beginningsBehind_33 : decode cX7_beginningsBehind 33 = .ok (.getfield 37, 3) := by decide +kernel
theorem dX7_beginningsBehind_36 : decode cX7_beginningsBehind 36 = .ok (.aload_n 0, 1) := by decide +kernel
theorem dX7_beginningsBehind_37 : decode cX7_beginningsBehind 37 = .ok (.getfield 47, 3) := by decide +kernel
theorem dX7_beginningsBehind_40 : decode cX7_beginningsBehind 40 = .ok (.invokevirtual 157, 3) := by decide +kernel
theorem dX7_beginningsBehind_43 : decode cX7_beginningsBehind 43 = .ok (.ifCond .eq 17, 3) := by decide +kernel
theorem dX7_beginningsBehind_46 : decode cX7_beginningsBehind 46 = .ok (.aload_n 0, 1) := by decide +kernel
theorem dX7_beginningsBehind_47 : decode cX7_beginningsBehind 47 = .ok (.getfield 33, 3) := by decide +kernel
theorem dX7_beginningsBehind_50 : decode cX7_beginningsBehind 50 = .ok (.aload_n 0, 1) := by decide +kernel
theorem dX7_beginningsBehind_51 : decode cX7_beginningsBehind 51 = .ok (.getfield 47, 3) := by decide +kernel
theorem dX7_beginningsBehind_54 : decode cX7_beginningsBehind 54 = .ok (.invokevirtual 233, 3) := by decide +kernel
theorem dX7_beginningsBehind_57 : decode cX7_beginningsBehind 57 = .ok (.ifCond .eq 5, 3) := by decide +kernel
theorem dX7_beginningsBehind_60 : decode cX7_beginningsBehind 60 = .ok (.iload_n 3, 1) := by decide +kernel
theorem dX7_beginningsBehind_61 : decode cX7_beginningsBehind 61 = .ok (.ireturn, 1) := by decide +kernel
theorem dX7_beginningsBehind_62 : decode cX7_beginningsBehind 62 = .ok (.iinc 3 1, 3) := by decide +kernel
theorem dX7_beginningsBehind_65 : decode cX7_beginningsBehind 65 = .ok (.goto (-38), 3) := by decide +kernel
theorem dX7_beginningsBehind_68 : decode cX7_beginningsBehind 68 = .ok (.iload_n 2, 1) := by decide +kernel
theorem dX7_beginningsBehind_69 : decode cX7_beginningsBehind 69 = .ok (.ireturn, 1) := by decide +kernel
theorem dX7_isWithin_0 : decode cX7_isWithin 0 = .ok (.lload_n 0, 1) := by decide +kernel
theorem dX7_isWithin_1 : decode cX7_isWithin 1 = .ok (.iload_n 2, 1) := by decide +kernel
theorem dX7_isWithin_2 : decode cX7_isWithin 2 = .ok (.ineg, 1) := by decide +kernel
theorem dX7_isWithin_3 : decode cX7_isWithin 3 = .ok (.i2l, 1) := by decide +kernel
theorem dX7_isWithin_4 : decode cX7_isWithin 4 = .ok (.lcmp, 1) := by decide +kernel
theorem dX7_isWithin_5 : decode cX7_isWithin 5 = .ok (.ifCond .lt 14, 3) := by decide +kernel
theorem dX7_isWithin_8 : decode cX7_isWithin 8 = .ok (.lload_n 0, 1) := by decide +kernel
theorem dX7_isWithin_9 : decode cX7_isWithin 9 = .ok (.iload_n 2, 1) := by decide +kernel
theorem dX7_isWithin_10 : decode cX7_isWithin 10 = .ok (.i2l, 1) := by decide +kernel
theorem dX7_isWithin_11 : decode cX7_isWithin 11 = .ok (.lcmp, 1) := by decide +kernel
theorem dX7_isWithin_12 : decode cX7_isWithin 12 = .ok (.ifCond .gt 7, 3) := by decide +kernel
theorem dX7_isWithin_15 : decode cX7_isWithin 15 = .ok (.iconst 1, 1) := by decide +kernel
theorem dX7_isWithin_16 : decode cX7_isWithin 16 = .ok (.goto 4, 3) := by decide +kernel
theorem dX7_isWithin_19 : decode cX7_isWithin 19 = .ok (.iconst 0, 1) := by decide +kernel
theorem dX7_isWithin_20 : decode cX7_isWithin 20 = .ok (.ireturn, 1) := by decide +kernel
theorem dX7_signOf_0 : decode cX7_signOf 0 = .ok (.lload_n 0, 1) := by decide +kernel
theorem dX7_signOf_1 : decode cX7_signOf 1 = .ok (.lconst 0, 1) := by decide +kernel
theorem dX7_signOf_2 : decode cX7_signOf 2 = .ok (.lcmp, 1) := by decide +kernel
theorem dX7_signOf_3 : decode cX7_signOf 3 = .ok (.ifCond .le 7, 3) := by decide +kernel
theorem dX7_signOf_6 : decode cX7_signOf 6 = .ok (.iconst 1, 1) := by decide +kernel
theorem dX7_signOf_7 : decode cX7_signOf 7 = .ok (.goto 14, 3) := by decide +kernel
theorem dX7_signOf_10 : decode cX7_signOf 10 = .ok (.lload_n 0, 1) := by decide +kernel
theorem dX7_signOf_11 : decode cX7_signOf 11 = .ok (.lconst 0, 1) := by decide +kernel
theorem dX7_signOf_12 : decode cX7_signOf 12 = .ok (.lcmp, 1) := by decide +kernel
theorem dX7_signOf_13 : decode cX7_signOf 13 = .ok (.ifCond .ge 7, 3) := by decide +kernel
theorem dX7_signOf_16 : decode cX7_signOf 16 = .ok (.iconst (-1), 1) := by decide +kernel
theorem dX7_signOf_17 : decode cX7_signOf 17 = .ok (.goto 4, 3) := by decide +kernel
theorem dX7_signOf_20 : decode cX7_signOf 20 = .ok (.iconst 0, 1) := by decide +kernel
theorem dX7_signOf_21 : decode cX7_signOf 21 = .ok (.istore 5, 2) := by decide +kernel
theorem dX7_signOf_23 : decode cX7_signOf 23 = .ok (.iload 4, 2) := by decide +kernel
theorem dX7_signOf_25 : decode cX7_signOf 25 = .ok (.ifCond .eq 9, 3) := by decide +kernel
theorem dX7_signOf_28 : decode cX7_signOf 28 = .ok (.lload_n 2, 1) := by decide +kernel
theorem dX7_signOf_29 : decode cX7_signOf 29 = .ok (.lconst 0, 1) := by decide +kernel
theorem dX7_signOf_30 : decode cX7_signOf 30 = .ok (.lcmp, 1) := by decide +kernel
theorem dX7_signOf_31 : decode cX7_signOf 31 = .ok (.ifCond .ne 6, 3) := by decide +kernel
theorem dX7_signOf_34 : decode cX7_signOf 34 = .ok (.iload 5, 2) := by decide +kernel
theorem dX7_signOf_36 : decode cX7_signOf 36 = .ok (.ireturn, 1) := by decide +kernel
theorem dX7_signOf_37 : decode cX7_signOf 37 = .ok (.lload_n 2, 1) := by decide +kernel
theorem dX7_signOf_38 : decode cX7_signOf 38 = .ok (.lconst 0, 1) := by decide +kernel
theorem dX7_signOf_39 : decode cX7_signOf 39 = .ok (.lcmp, 1) := by decide +kernel
theorem dX7_signOf_40 : decode cX7_signOf 40 = .ok (.ifCond .le 7, 3) := by decide +kernel
theorem dX7_signOf_43 : decode cX7_signOf 43 = .ok (.iconst 1, 1) := by decide +kernel
theorem dX7_signOf_44 : decode cX7_signOf 44 = .ok (.goto 4, 3) := by decide +kernel
theorem dX7_signOf_47 : decode cX7_signOf 47 = .ok (.iconst (-1), 1) := by decide +kernel
theorem dX7_signOf_48 : decode cX7_signOf 48 = .ok (.istore 6, 2) := by decide +kernel
theorem dX7_signOf_50 : decode cX7_signOf 50 = .ok (.iload 5, 2) := by decide +kernel
theorem dX7_signOf_52 : decode cX7_signOf 52 = .ok (.ifCond .eq 10, 3) := by decide +kernel
theorem dX7_signOf_55 : decode cX7_signOf 55 = .ok (.iload 5, 2) := by decide +kernel
theorem dX7_signOf_57 : decode cX7_signOf 57 = .ok (.iload 6, 2) := by decide +kernel
theorem dX7_signOf_59 : decode cX7_signOf 59 = .ok (.if_icmp .ne 6, 3) := by decide +kernel
theorem dX7_signOf_62 : decode cX7_signOf 62 = .ok (.iload 6, 2) := by decide +kernel
theorem dX7_signOf_64 : decode cX7_signOf 64 = .ok (.ireturn, 1) := by decide +kernel
theorem dX7_signOf_65 : decode cX7_signOf 65 = .ok (.lload_n 0, 1) := by decide +kernel
theorem dX7_signOf_66 : decode cX7_signOf 66 = .ok (.lload_n 0, 1) := by decide +kernel
theorem dX7_signOf_67 : decode cX7_signOf 67 = .ok (.lmul, 1) := by decide +kernel
theorem dX7_signOf_68 : decode cX7_signOf 68 = .ok (.iload 4, 2) := by decide +kernel
theorem dX7_signOf_70 : decode cX7_signOf 70 = .ok (.i2l, 1) := by decide +kernel
theorem dX7_signOf_71 : decode cX7_signOf 71 = .ok (.lload_n 2, 1) := by decide +kernel
theorem dX7_signOf_72 : decode cX7_signOf 72 = .ok (.lmul, 1) := by decide +kernel
theorem dX7_signOf_73 : decode cX7_signOf 73 = .ok (.lload_n 2, 1) := by decide +kernel
theorem dX7_signOf_74 : decode cX7_signOf 74 = .ok (.lmul, 1) := by decide +kernel
theorem dX7_signOf_75 : decode cX7_signOf 75 = .ok (.lcmp, 1) := by decide +kernel
theorem dX7_signOf_76 : decode cX7_signOf 76 = .ok (.ifCond .le 8, 3) := by decide +kernel
theorem dX7_signOf_79 : decode cX7_signOf 79 = .ok (.iload 5, 2) := by decide +kernel
theorem dX7_signOf_81 : decode cX7_signOf 81 = .ok (.goto 5, 3) := by decide +kernel
theorem dX7_signOf_84 : decode cX7_signOf 84 = .ok (.iload 6, 2) := by decide +kernel
theorem dX7_signOf_86 : decode cX7_signOf 86 = .ok (.ireturn, 1) := by decide +kernel
theorem dX8_init_0 : decode cX8_init 0 = .ok (.aload_n 0, 1) := by decide +kernel
theorem dX8_init_1 : decode cX8_init 1 = .ok (.invokespecial 1, 3) := by decide +kernel
theorem dX8_init_4 : decode cX8_init 4 = .ok (.aload_n 0, 1) := by decide +kernel
theorem dX8_init_5 : decode cX8_init 5 = .ok (.bipush 8, 2) := by decide +kernel
theorem dX8_init_7 : decode cX8_init 7 = .ok (.newarray .int, 2) := by decide +kernel
theorem dX8_init_9 : decode cX8_init 9 = .ok (.putfield 7, 3) := by decide +kernel
theorem dX8_init_12 : decode cX8_init 12 = .ok (.aload_n 0, 1) := by decide +kernel
theorem dX8_init_13 : decode cX8_init 13 = .ok (.bipush 8, 2) := by decide +kernel
theorem dX8_init_15 : decode cX8_init 15 = .ok (.newarray .int, 2) := by decide +kernel
theorem dX8_init_17 : decode cX8_init 17 = .ok (.putfield 13, 3) := by decide +kernel
theorem dX8_init_20 : decode cX8_init 20 = .ok (.aload_n 0, 1) := by decide +kernel
theorem dX8_init_21 : decode cX8_init 21 = .ok (.bipush 8, 2) := by decide +kernel
theorem dX8_init_23 : decode cX8_init 23 = .ok (.newarray .int, 2) := by decide +kernel
theorem dX8_init_25 : decode cX8_init 25 = .ok (.putfield 16, 3) := by decide +kernel
theorem dX8_init_28 : decode cX8_init 28 = .ok (.aload_n 0, 1) := by decide +kernel
theorem dX8_init_29 : decode cX8_init 29 = .ok (.bipush 8, 2) := by decide +kernel
theorem dX8_init_31 : decode cX8_init 31 = .ok (.newarray .long, 2) := by decide +kernel
theorem dX8_init_33 : decode cX8_init 33 = .ok (.putfield 19, 3) := by decide +kernel
theorem dX8_init_36 : decode cX8_init 36 = .ok (.aload_n 0, 1) := by decide +kernel
theorem dX8_init_37 : decode cX8_init 37 = .ok (.bipush 8, 2) := by decide +kernel
theorem dX8_init_39 : decode cX8_init 39 = .ok (.newarray .long, 2) := by decide +kernel
theorem dX8_init_41 : decode cX8_init 41 = .ok (.putfield 23, 3) := by decide +kernel
theorem dX8_init_44 : decode cX8_init 44 = .ok (.aload_n 0, 1) := by decide +kernel
theorem dX8_init_45 : decode cX8_init 45 = .ok (.bipush 8, 2) := by decide +kernel
theorem dX8_init_47 : decode cX8_init 47 = .ok (.newarray .int, 2) := by decide +kernel
theorem dX8_init_49 : decode cX8_init 49 = .ok (.putfield 26, 3) := by decide +kernel
theorem dX8_init_52 : decode cX8_init 52 = .ok (.aload_n 0, 1) := by decide +kernel
theorem dX8_init_53 : decode cX8_init 53 = .ok (.bipush 8, 2) := by decide +kernel
theorem dX8_init_55 : decode cX8_init 55 = .ok (.newarray .int, 2) := by decide +kernel
theorem dX8_init_57 : decode cX8_init 57 = .ok (.putfield 29, 3) := by decide +kernel
theorem dX8_init_60 : decode cX8_init 60 = .ok (.aload_n 0, 1) := by decide +kernel
theorem dX8_init_61 : decode cX8_init 61 = .ok (.bipush 64, 2) := by decide +kernel
theorem dX8_init_63 : decode cX8_init 63 = .ok (.newarray .long, 2) := by decide +kernel
theorem dX8_init_65 : decode cX8_init 65 = .ok (.putfield 32, 3) := by decide +kernel
theorem dX8_init_68 : decode cX8_init 68 = .ok (.aload_n 0, 1) := by decide +kernel
theorem dX8_init_69 : decode cX8_init 69 = .ok (.bipush 8, 2) := by decide +kernel
theorem dX8_init_71 : decode cX8_init 71 = .ok (.newarray .long, 2) := by decide +kernel
theorem dX8_init_73 : decode cX8_init 73 = .ok (.putfield 35, 3) := by decide +kernel
theorem dX8_init_76 : decode cX8_init 76 = .ok (.aload_n 0, 1) := by decide +kernel
theorem dX8_init_77 : decode cX8_init 77 = .ok (.bipush 8, 2) := by decide +kernel
theorem dX8_init_79 : decode cX8_init 79 = .ok (.newarray .long, 2) := by decide +kernel
theorem dX8_init_81 : decode cX8_init 81 = .ok (.putfield 38, 3) := by decide +kernel
theorem dX8_init_84 : decode cX8_init 84 = .ok (.aload_n 0, 1) := by decide +kernel
theorem dX8_init_85 : decode cX8_init 85 = .ok (.bipush 8, 2) := by decide +kernel
theorem dX8_init_87 : decode cX8_init 87 = .ok (.newarray .int, 2) := by decide +kernel
theorem dX8_init_89 : decode cX8_init 89 = .ok (.putfield 41, 3) := by decide +kernel
theorem dX8_init_92 : decode cX8_init 92 = .ok (.aload_n 0, 1) := by decide +kernel
theorem dX8_init_93 : decode cX8_init 93 = .ok (.bipush 8, 2) := by decide +kernel
theorem dX8_init_95 : decode cX8_init 95 = .ok (.newarray .int, 2) := by decide +kernel
theorem dX8_init_97 : decode cX8_init 97 = .ok (.putfield 44, 3) := by decide +kernel
theorem dX8_init_100 : decode cX8_init 100 = .ok (.aload_n 0, 1) := by decide +kernel
theorem dX8_init_101 : decode cX8_init 101 = .ok (.bipush 64, 2) := by decide +kernel
theorem dX8_init_103 : decode cX8_init 103 = .ok (.newarray .long, 2) := by decide +kernel
theorem dX8_init_105 : decode cX8_init 105 = .ok (.putfield 47, 3) := by decide +kernel
theorem dX8_init_108 : decode cX8_init 108 = .ok (.aload_n 0, 1) := by decide +kernel
theorem dX8_init_109 : decode cX8_init 109 = .ok (.sipush 2000, 3) := by decide +kernel
theorem dX8_init_112 : decode cX8_init 112 = .ok (.newarray .int, 2) := by decide +kernel
theorem dX8_init_114 : decode cX8_init 114 = .ok (.putfield 50, 3) := by decide +kernel
theorem dX8_init_117 : decode cX8_init 117 = .ok (.aload_n 0, 1) := by decide +kernel
theorem dX8_init_118 : decode cX8_init 118 = .ok (.sipush 2000, 3) := by decide +kernel
theorem dX8_init_121 : decode cX8_init 121 = .ok (.newarray .int, 2) := by decide +kernel
theorem dX8_init_123 : decode cX8_init 123 = .ok (.putfield 53, 3) := by decide +kernel
theorem dX8_init_126 : decode cX8_init 126 = .ok (.aload_n 0, 1) := by decide +kernel
theorem dX8_init_127 : decode cX8_init 127 = .ok (.sipush 2000, 3) := by decide +kernel
theorem dX8_init_130 : decode cX8_init 130 = .ok (.newarray .int, 2) := by decide +kernel
theorem dX8_init_132 : decode cX8_init 132 = .ok (.putfield 56, 3) := by decide +kernel
theorem dX8_init_135 : decode cX8_init 135 = .ok (.aload_n 0, 1) := by decide +kernel
theorem dX8_init_136 : decode cX8_init 136 = .ok (.sipush 2000, 3) := by decide +kernel
theorem dX8_init_139 : decode cX8_init 139 = .ok (.newarray .int, 2) := by decide +kernel
theorem dX8_init_141 : decode cX8_init 141 = .ok (.putfield 59, 3) := by decide +kernel
theorem dX8_init_144 : decode cX8_init 144 = .ok (.aload_n 0, 1) := by decide +kernel
theorem dX8_init_145 : decode cX8_init 145 = .ok (.sipush 2000, 3) := by decide +kernel
theorem dX8_init_148 : decode cX8_init 148 = .ok (.newarray .int, 2) := by decide +kernel
theorem dX8_init_150 : decode cX8_init 150 = .ok (.putfield 62, 3) := by decide +kernel
theorem dX8_init_153 : decode cX8_init 153 = .ok (.aload_n 0, 1) := by decide +kernel
theorem dX8_init_154 : decode cX8_init 154 = .ok (.sipush 2000, 3) := by decide +kernel
theorem dX8_init_157 : decode cX8_init 157 = .ok (.newarray .boolean, 2) := by decide +kernel
theorem dX8_init_159 : decode cX8_init 159 = .ok (.putfield 65, 3) := by decide +kernel
theorem dX8_init_162 : decode cX8_init 162 = .ok (.aload_n 0, 1) := by decide +kernel
theorem dX8_init_163 : decode cX8_init 163 = .ok (.bipush 80, 2) := by decide +kernel
theorem dX8_init_165 : decode cX8_init 165 = .ok (.newarray .long, 2) := by decide +kernel
theorem dX8_init_167 : decode cX8_init 167 = .ok (.putfield 69, 3) := by decide +kernel
theorem dX8_init_170 : decode cX8_init 170 = .ok (.aload_n 0, 1) := by decide +kernel
theorem dX8_init_171 : decode cX8_init 171 = .ok (.bipush 80, 2) := by decide +kernel
theorem dX8_init_173 : decode cX8_init 173 = .ok (.newarray .long, 2) := by decide +kernel
theorem dX8_init_175 : decode cX8_init 175 = .ok (.putfield 72, 3) := by decide +kernel
theorem dX8_init_178 : decode cX8_init 178 = .ok (.aload_n 0, 1) := by decide +kernel
theorem dX8_init_179 : decode cX8_init 179 = .ok (.sipush 800, 3) := by decide +kernel
theorem dX8_init_182 : decode cX8_init 182 = .ok (.newarray .int, 2) := by decide +kernel
theorem dX8_init_184 : decode cX8_init 184 = .ok (.putfield 75, 3) := by decide +kernel
theorem dX8_init_187 : decode cX8_init 187 = .ok (.aload_n 0, 1) := by decide +kernel
theorem dX8_init_188 : decode cX8_init 188 = .ok (.bipush 8, 2) := by decide +kernel
theorem dX8_init_190 : decode cX8_init 190 = .ok (.newarray .int, 2) := by decide +kernel
theorem dX8_init_192 : decode cX8_init 192 = .ok (.putfield 78, 3) := by decide +kernel
theorem dX8_init_195 : decode cX8_init 195 = .ok (.aload_n 0, 1) := by decide +kernel
theorem dX8_init_196 : decode cX8_init 196 = .ok (.bipush 8, 2) := by decide +kernel
theorem dX8_init_198 : decode cX8_init 198 = .ok (.newarray .int, 2) := by decide +kernel
theorem dX8_init_200 : decode cX8_init 200 = .ok (.putfield 81, 3) := by decide +kernel
theorem dX8_init_203 : decode cX8_init 203 = .ok (.aload_n 0, 1) := by decide +kernel
theorem dX8_init_204 : decode cX8_init 204 = .ok (.bipush 16, 2) := by decide +kernel
theorem dX8_init_206 : decode cX8_init 206 = .ok (.newarray .int, 2) := by decide +kernel
theorem dX8_init_208 : decode cX8_init 208 = .ok (.putfield 84, 3) := by decide +kernel
theorem dX8_init_211 : decode cX8_init 211 = .ok (.return_, 1) := by decide +kernel
theorem dX8_signOf_0 : decode cX8_signOf 0 = .ok (.lload_n 3, 1) := by decide +kernel
theorem dX8_signOf_1 : decode cX8_signOf 1 = .ok (.lconst 0, 1) := by decide +kernel
theorem dX8_signOf_2 : decode cX8_signOf 2 = .ok (.lcmp, 1) := by decide +kernel
theorem dX8_signOf_3 : decode cX8_signOf 3 = .ok (.ifCond .eq 10, 3) := by decide +kernel
theorem dX8_signOf_6 : decode cX8_signOf 6 = .ok (.aload_n 0, 1) := by decide +kernel
theorem dX8_signOf_7 : decode cX8_signOf 7 = .ok (.getfield 87, 3) := by decide +kernel
theorem dX8_signOf_10 : decode cX8_signOf 10 = .ok (.ifCond .ne 25, 3) := by decide +kernel
theorem dX8_signOf_13 : decode cX8_signOf 13 = .ok (.lload_n 1, 1) := by decide +kernel
theorem dX8_signOf_14 : decode cX8_signOf 14 = .ok (.lconst 0, 1) := by decide +kernel
theorem dX8_signOf_15 : decode cX8_signOf 15 = .ok (.lcmp, 1) := by decide +kernel
theorem dX8_signOf_16 : decode cX8_signOf 16 = .ok (.ifCond .le 7, 3) := by decide +kernel
theorem dX8_signOf_19 : decode cX8_signOf 19 = .ok (.iconst 1, 1) := by decide +kernel
theorem dX8_signOf_20 : decode cX8_signOf 20 = .ok (.goto 14, 3) := by decide +kernel
theorem dX8_signOf_23 : decode cX8_signOf 23 = .ok (.lload_n 1, 1) := by decide +kernel
theorem dX8_signOf_24 : decode cX8_signOf 24 = .ok (.lconst 0, 1) := by decide +kernel
theorem dX8_signOf_25 : decode cX8_signOf 25 = .ok (.lcmp, 1) := by decide +kernel
theorem dX8_signOf_26 : decode cX8_signOf 26 = .ok (.ifCond .ge 7, 3) := by decide +kernel
theorem dX8_signOf_29 : decode cX8_signOf 29 = .ok (.iconst (-1), 1) := by decide +kernel
theorem dX8_signOf_30 : decode cX8_signOf 30 = .ok (.goto 4, 3) := by decide +kernel
theorem dX8_signOf_33 : decode cX8_signOf 33 = .ok (.iconst 0, 1) := by decide +kernel
theorem dX8_signOf_34 : decode cX8_signOf 34 = .ok (.ireturn, 1) := by decide +kernel
theorem dX8_signOf_35 : decode cX8_signOf 35 = .ok (.lload_n 1, 1) := by decide +kernel
theorem dX8_signOf_36 : decode cX8_signOf 36 = .ok (.lconst 0, 1) := by decide +kernel
theorem dX8_signOf_37 : decode cX8_signOf 37 = .ok (.lcmp, 1) := by decide +kernel
theorem dX8_signOf_38 : decode cX8_signOf 38 = .ok (.ifCond .lt 11, 3) := by decide +kernel
theorem dX8_signOf_41 : decode cX8_signOf 41 = .ok (.lload_n 3, 1) := by decide +kernel
theorem dX8_signOf_42 : decode cX8_signOf 42 = .ok (.lconst 0, 1) := by decide +kernel
theorem dX8_signOf_43 : decode cX8_signOf 43 = .ok (.lcmp, 1) := by decide +kernel
theorem dX8_signOf_44 : decode cX8_signOf 44 = .ok (.ifCond .le 5, 3) := by decide +kernel
theorem dX8_signOf_47 : decode cX8_signOf 47 = .ok (.iconst 1, 1) := by decide +kernel
theorem dX8_signOf_48 : decode cX8_signOf 48 = .ok (.ireturn, 1) := by decide +kernel
theorem dX8_signOf_49 : decode cX8_signOf 49 = .ok (.lload_n 1, 1) := by decide +kernel
theorem dX8_signOf_50 : decode cX8_signOf 50 = .ok (.lconst 0, 1) := by decide +kernel
theorem dX8_signOf_51 : decode cX8_signOf 51 = .ok (.lcmp, 1) := by decide +kernel
theorem dX8_signOf_52 : decode cX8_signOf 52 = .ok (.ifCond .gt 11, 3) := by decide +kernel
theorem dX8_signOf_55 : decode cX8_signOf 55 = .ok (.lload_n 3, 1) := by decide +kernel
theorem dX8_signOf_56 : decode cX8_signOf 56 = .ok (.lconst 0, 1) := by decide +kernel
theorem dX8_signOf_57 : decode cX8_signOf 57 = .ok (.lcmp, 1) := by decide +kernel
theorem dX8_signOf_58 : decode cX8_signOf 58 = .ok (.ifCond .ge 5, 3) := by decide +kernel
theorem dX8_signOf_61 : decode cX8_signOf 61 = .ok (.iconst (-1), 1) := by decide +kernel
theorem dX8_signOf_62 : decode cX8_signOf 62 = .ok (.ireturn, 1) := by decide +kernel
theorem dX8_signOf_63 : decode cX8_signOf 63 = .ok (.lload_n 1, 1) := by decide +kernel
theorem dX8_signOf_64 : decode cX8_signOf 64 = .ok (.lload_n 1, 1) := by decide +kernel
theorem dX8_signOf_65 : decode cX8_signOf 65 = .ok (.lmul, 1) := by decide +kernel
theorem dX8_signOf_66 : decode cX8_signOf 66 = .ok (.lstore 5, 2) := by decide +kernel
