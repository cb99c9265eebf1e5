theorem d_LW_feed_0 : decode b_LW_feed 0 = .ok (.aload 6, 2) := by decide +kernel
theorem d_LW_feed_2 : decode b_LW_feed 2 = .ok (.iconst 0, 1) := by decide +kernel
theorem d_LW_feed_3 : decode b_LW_feed 3 = .ok (.aload_n 0, 1) := by decide +kernel
theorem d_LW_feed_4 : decode b_LW_feed 4 = .ok (.iload_n 1, 1) := by decide +kernel
theorem d_LW_feed_5 : decode b_LW_feed 5 = .ok (.iload_n 2, 1) := by decide +kernel
theorem d_LW_feed_6 : decode b_LW_feed 6 = .ok (.iload_n 3, 1) := by decide +kernel
theorem d_LW_feed_7 : decode b_LW_feed 7 = .ok (.iload 4, 2) := by decide +kernel
theorem d_LW_feed_9 : decode b_LW_feed 9 = .ok (.iload 5, 2) := by decide +kernel
theorem d_LW_feed_11 : decode b_LW_feed 11 = .ok (.invokevirtual 7, 3) := by decide +kernel
theorem d_LW_feed_14 : decode b_LW_feed 14 = .ok (.i2l, 1) := by decide +kernel
theorem d_LW_feed_15 : decode b_LW_feed 15 = .ok (.lastore, 1) := by decide +kernel
theorem d_LW_feed_16 : decode b_LW_feed 16 = .ok (.goto 7, 3) := by decide +kernel
theorem d_LW_feed_19 : decode b_LW_feed 19 = .ok (.astore 7, 2) := by decide +kernel
theorem d_LW_feed_21 : decode b_LW_feed 21 = .ok (.iconst 1, 1) := by decide +kernel
theorem d_LW_feed_22 : decode b_LW_feed 22 = .ok (.ireturn, 1) := by decide +kernel
theorem d_LW_feed_23 : decode b_LW_feed 23 = .ok (.iconst 0, 1) := by decide +kernel
theorem d_LW_feed_24 : decode b_LW_feed 24 = .ok (.ireturn, 1) := by decide +kernel
theorem d_LW_end_0 : decode b_LW_end 0 = .ok (.aload_n 2, 1) := by decide +kernel
theorem d_LW_end_1 : decode b_LW_end 1 = .ok (.iconst 0, 1) := by decide +kernel
theorem d_LW_end_2 : decode b_LW_end 2 = .ok (.aload_n 0, 1) := by decide +kernel
theorem d_LW_end_3 : decode b_LW_end 3 = .ok (.iload_n 1, 1) := by decide +kernel
theorem d_LW_end_4 : decode b_LW_end 4 = .ok (.invokevirtual 15, 3) := by decide +kernel
theorem d_LW_end_7 : decode b_LW_end 7 = .ok (.i2l, 1) := by decide +kernel
theorem d_LW_end_8 : decode b_LW_end 8 = .ok (.lastore, 1) := by decide +kernel
theorem d_LW_end_9 : decode b_LW_end 9 = .ok (.goto 6, 3) := by decide +kernel
theorem d_LW_end_12 : decode b_LW_end 12 = .ok (.astore_n 3, 1) := by decide +kernel
theorem d_LW_end_13 : decode b_LW_end 13 = .ok (.iconst 1, 1) := by decide +kernel
theorem d_LW_end_14 : decode b_LW_end 14 = .ok (.ireturn, 1) := by decide +kernel
theorem d_LW_end_15 : decode b_LW_end 15 = .ok (.iconst 0, 1) := by decide +kernel
theorem d_LW_end_16 : decode b_LW_end 16 = .ok (.ireturn, 1) := by decide +kernel
theorem d_LW_unpack_0 : decode b_LW_unpack 0 = .ok (.aload_n 2, 1) := by decide +kernel
theorem d_LW_unpack_1 : decode b_LW_unpack 1 = .ok (.iconst 0, 1) := by decide +kernel
theorem d_LW_unpack_2 : decode b_LW_unpack 2 = .ok (.aload_n 0, 1) := by decide +kernel
theorem d_LW_unpack_3 : decode b_LW_unpack 3 = .ok (.iload_n 1, 1) := by decide +kernel
theorem d_LW_unpack_4 : decode b_LW_unpack 4 = .ok (.invokevirtual 21, 3) := by decide +kernel
theorem d_LW_unpack_7 : decode b_LW_unpack 7 = .ok (.i2l, 1) := by decide +kernel
theorem d_LW_unpack_8 : decode b_LW_unpack 8 = .ok (.lastore, 1) := by decide +kernel
theorem d_LW_unpack_9 : decode b_LW_unpack 9 = .ok (.goto 12, 3) := by decide +kernel
theorem d_LW_unpack_12 : decode b_LW_unpack 12 = .ok (.astore_n 3, 1) := by decide +kernel
theorem d_LW_unpack_13 : decode b_LW_unpack 13 = .ok (.iconst 1, 1) := by decide +kernel
theorem d_LW_unpack_14 : decode b_LW_unpack 14 = .ok (.ireturn, 1) := by decide +kernel
theorem d_LW_unpack_15 : decode b_LW_unpack 15 = .ok (.astore_n 3, 1) := by decide +kernel
theorem d_LW_unpack_16 : decode b_LW_unpack 16 = .ok (.iconst 2, 1) := by decide +kernel
theorem d_LW_unpack_17 : decode b_LW_unpack 17 = .ok (.ireturn, 1) := by decide +kernel
theorem d_LW_unpack_18 : decode b_LW_unpack 18 = .ok (.astore_n 3, 1) := by decide +kernel
theorem d_LW_unpack_19 : decode b_LW_unpack 19 = .ok (.iconst 3, 1) := by decide +kernel
theorem d_LW_unpack_20 : decode b_LW_unpack 20 = .ok (.ireturn, 1) := by decide +kernel
theorem d_LW_unpack_21 : decode b_LW_unpack 21 = .ok (.iconst 0, 1) := by decide +kernel
theorem d_LW_unpack_22 : decode b_LW_unpack 22 = .ok (.ireturn, 1) := by decide +kernel
theorem d_LW_pack_0 : decode b_LW_pack 0 = .ok (.aload_n 2, 1) := by decide +kernel
theorem d_LW_pack_1 : decode b_LW_pack 1 = .ok (.iconst 0, 1) := by decide +kernel
theorem d_LW_pack_2 : decode b_LW_pack 2 = .ok (.aload_n 0, 1) := by decide +kernel
theorem d_LW_pack_3 : decode b_LW_pack 3 = .ok (.iload_n 1, 1) := by decide +kernel
theorem d_LW_pack_4 : decode b_LW_pack 4 = .ok (.invokevirtual 26, 3) := by decide +kernel
theorem d_LW_pack_7 : decode b_LW_pack 7 = .ok (.i2l, 1) := by decide +kernel
theorem d_LW_pack_8 : decode b_LW_pack 8 = .ok (.lastore, 1) := by decide +kernel
theorem d_LW_pack_9 : decode b_LW_pack 9 = .ok (.goto 12, 3) := by decide +kernel
theorem d_LW_pack_12 : decode b_LW_pack 12 = .ok (.astore_n 3, 1) := by decide +kernel
theorem d_LW_pack_13 : decode b_LW_pack 13 = .ok (.iconst 1, 1) := by decide +kernel
theorem d_LW_pack_14 : decode b_LW_pack 14 = .ok (.ireturn, 1) := by decide +kernel
theorem d_LW_pack_15 : decode b_LW_pack 15 = .ok (.astore_n 3, 1) := by decide +kernel
theorem d_LW_pack_16 : decode b_LW_pack 16 = .ok (.iconst 2, 1) := by decide +kernel
theorem d_LW_pack_17 : decode b_LW_pack 17 = .ok (.ireturn, 1) := by decide +kernel
theorem d_LW_pack_18 : decode b_LW_pack 18 = .ok (.astore_n 3, 1) := by decide +kernel
theorem d_LW_pack_19 : decode b_LW_pack 19 = .ok (.iconst 3, 1) := by decide +kernel
theorem d_LW_pack_20 : decode b_LW_pack 20 = .ok (.ireturn, 1) := by decide +kernel
theorem d_LW_pack_21 : decode b_LW_pack 21 = .ok (.iconst 0, 1) := by decide +kernel
theorem d_LW_pack_22 : decode b_LW_pack 22 = .ok (.ireturn, 1) := by decide +kernel
theorem d_LW_mask_0 : decode b_LW_mask 0 = .ok (.aload_n 0, 1) := by decide +kernel
theorem d_LW_mask_1 : decode b_LW_mask 1 = .ok (.iload_n 1, 1) := by decide +kernel
theorem d_LW_mask_2 : decode b_LW_mask 2 = .ok (.invokevirtual 29, 3) := by decide +kernel
theorem d_LW_mask_5 : decode b_LW_mask 5 = .ok (.goto 6, 3) := by decide +kernel
theorem d_LW_mask_8 : decode b_LW_mask 8 = .ok (.astore_n 2, 1) := by decide +kernel
theorem d_LW_mask_9 : decode b_LW_mask 9 = .ok (.iconst 1, 1) := by decide +kernel
theorem d_LW_mask_10 : decode b_LW_mask 10 = .ok (.ireturn, 1) := by decide +kernel
theorem d_LW_mask_11 : decode b_LW_mask 11 = .ok (.iconst 0, 1) := by decide +kernel
theorem d_LW_mask_12 : decode b_LW_mask 12 = .ok (.ireturn, 1) := by decide +kernel
theorem d_LW_word_0 : decode b_LW_word 0 = .ok (.aload_n 2, 1) := by decide +kernel
theorem d_LW_word_1 : decode b_LW_word 1 = .ok (.iconst 0, 1) := by decide +kernel
theorem d_LW_word_2 : decode b_LW_word 2 = .ok (.aload_n 0, 1) := by decide +kernel
theorem d_LW_word_3 : decode b_LW_word 3 = .ok (.iload_n 1, 1) := by decide +kernel
theorem d_LW_word_4 : decode b_LW_word 4 = .ok (.invokevirtual 33, 3) := by decide +kernel
theorem d_LW_word_7 : decode b_LW_word 7 = .ok (.lastore, 1) := by decide +kernel
theorem d_LW_word_8 : decode b_LW_word 8 = .ok (.goto 6, 3) := by decide +kernel
theorem d_LW_word_11 : decode b_LW_word 11 = .ok (.astore_n 3, 1) := by decide +kernel
theorem d_LW_word_12 : decode b_LW_word 12 = .ok (.iconst 1, 1) := by decide +kernel
theorem d_LW_word_13 : decode b_LW_word 13 = .ok (.ireturn, 1) := by decide +kernel
theorem d_LW_word_14 : decode b_LW_word 14 = .ok (.iconst 0, 1) := by decide +kernel
theorem d_LW_word_15 : decode b_LW_word 15 = .ok (.ireturn, 1) := by decide +kernel
theorem d_LW_count_0 : decode b_LW_count 0 = .ok (.aload_n 2, 1) := by decide +kernel
theorem d_LW_count_1 : decode b_LW_count 1 = .ok (.iconst 0, 1) := by decide +kernel
theorem d_LW_count_2 : decode b_LW_count 2 = .ok (.aload_n 0, 1) := by decide +kernel
theorem d_LW_count_3 : decode b_LW_count 3 = .ok (.iload_n 1, 1) := by decide +kernel
theorem d_LW_count_4 : decode b_LW_count 4 = .ok (.invokevirtual 37, 3) := by decide +kernel
theorem d_LW_count_7 : decode b_LW_count 7 = .ok (.i2l, 1) := by decide +kernel
theorem d_LW_count_8 : decode b_LW_count 8 = .ok (.lastore, 1) := by decide +kernel
theorem d_LW_count_9 : decode b_LW_count 9 = .ok (.goto 6, 3) := by decide +kernel
theorem d_LW_count_12 : decode b_LW_count 12 = .ok (.astore_n 3, 1) := by decide +kernel
theorem d_LW_count_13 : decode b_LW_count 13 = .ok (.iconst 1, 1) := by decide +kernel
theorem d_LW_count_14 : decode b_LW_count 14 = .ok (.ireturn, 1) := by decide +kernel
theorem d_LW_count_15 : decode b_LW_count 15 = .ok (.iconst 0, 1) := by decide +kernel
theorem d_LW_count_16 : decode b_LW_count 16 = .ok (.ireturn, 1) := by decide +kernel
theorem d_LW_law_0 : decode b_LW_law 0 = .ok (.new 8, 3) := by decide +kernel
theorem d_LW_law_3 : decode b_LW_law 3 = .ok (.dup, 1) := by decide +kernel
theorem d_LW_law_4 : decode b_LW_law 4 = .ok (.invokespecial 40, 3) := by decide +kernel
theorem d_LW_law_7 : decode b_LW_law 7 = .ok (.astore_n 1, 1) := by decide +kernel
theorem d_LW_law_8 : decode b_LW_law 8 = .ok (.new 41, 3) := by decide +kernel
theorem d_LW_law_11 : decode b_LW_law 11 = .ok (.dup, 1) := by decide +kernel
theorem d_LW_law_12 : decode b_LW_law 12 = .ok (.invokespecial 43, 3) := by decide +kernel
theorem d_LW_law_15 : decode b_LW_law 15 = .ok (.astore_n 2, 1) := by decide +kernel
theorem d_LW_law_16 : decode b_LW_law 16 = .ok (.iconst 1, 1) := by decide +kernel
theorem d_LW_law_17 : decode b_LW_law 17 = .ok (.newarray .long, 2) := by decide +kernel
theorem d_LW_law_19 : decode b_LW_law 19 = .ok (.astore_n 3, 1) := by decide +kernel
theorem d_LW_law_20 : decode b_LW_law 20 = .ok (.iconst 0, 1) := by decide +kernel
theorem d_LW_law_21 : decode b_LW_law 21 = .ok (.istore 4, 2) := by decide +kernel
theorem d_LW_law_23 : decode b_LW_law 23 = .ok (.iload 4, 2) := by decide +kernel
theorem d_LW_law_25 : decode b_LW_law 25 = .ok (.aload_n 0, 1) := by decide +kernel
theorem d_LW_law_26 : decode b_LW_law 26 = .ok (.arraylength, 1) := by decide +kernel
theorem d_LW_law_27 : decode b_LW_law 27 = .ok (.bipush 6, 2) := by decide +kernel
theorem d_LW_law_29 : decode b_LW_law 29 = .ok (.isub, 1) := by decide +kernel
theorem d_LW_law_30 : decode b_LW_law 30 = .ok (.if_icmp .gt 496, 3) := by decide +kernel
theorem d_LW_law_33 : decode b_LW_law 33 = .ok (.aload_n 0, 1) := by decide +kernel
theorem d_LW_law_34 : decode b_LW_law 34 = .ok (.iload 4, 2) := by decide +kernel
theorem d_LW_law_36 : decode b_LW_law 36 = .ok (.iaload, 1) := by decide +kernel
theorem d_LW_law_37 : decode b_LW_law 37 = .ok (.bipush 7, 2) := by decide +kernel
theorem d_LW_law_39 : decode b_LW_law 39 = .ok (.iand, 1) := by decide +kernel
theorem d_LW_law_88 : decode b_LW_law 88 = .ok (.aload_n 1, 1) := by decide +kernel
theorem d_LW_law_89 : decode b_LW_law 89 = .ok (.aload_n 0, 1) := by decide +kernel
theorem d_LW_law_90 : decode b_LW_law 90 = .ok (.iload 4, 2) := by decide +kernel
theorem d_LW_law_92 : decode b_LW_law 92 = .ok (.iconst 1, 1) := by decide +kernel
theorem d_LW_law_93 : decode b_LW_law 93 = .ok (.iadd, 1) := by decide +kernel
theorem d_LW_law_94 : decode b_LW_law 94 = .ok (.iaload, 1) := by decide +kernel
theorem d_LW_law_95 : decode b_LW_law 95 = .ok (.aload_n 0, 1) := by decide +kernel
theorem d_LW_law_96 : decode b_LW_law 96 = .ok (.iload 4, 2) := by decide +kernel
theorem d_LW_law_98 : decode b_LW_law 98 = .ok (.iconst 2, 1) := by decide +kernel
theorem d_LW_law_99 : decode b_LW_law 99 = .ok (.iadd, 1) := by decide +kernel
theorem d_LW_law_100 : decode b_LW_law 100 = .ok (.iaload, 1) := by decide +kernel
theorem d_LW_law_101 : decode b_LW_law 101 = .ok (.aload_n 0, 1) := by decide +kernel
theorem d_LW_law_102 : decode b_LW_law 102 = .ok (.iload 4, 2) := by decide +kernel
theorem d_LW_law_104 : decode b_LW_law 104 = .ok (.iconst 3, 1) := by decide +kernel
theorem d_LW_law_105 : decode b_LW_law 105 = .ok (.iadd, 1) := by decide +kernel
theorem d_LW_law_106 : decode b_LW_law 106 = .ok (.iaload, 1) := by decide +kernel
theorem d_LW_law_107 : decode b_LW_law 107 = .ok (.aload_n 0, 1) := by decide +kernel
theorem d_LW_law_108 : decode b_LW_law 108 = .ok (.iload 4, 2) := by decide +kernel
theorem d_LW_law_110 : decode b_LW_law 110 = .ok (.iconst 4, 1) := by decide +kernel
theorem d_LW_law_111 : decode b_LW_law 111 = .ok (.iadd, 1) := by decide +kernel
theorem d_LW_law_112 : decode b_LW_law 112 = .ok (.iaload, 1) := by decide +kernel
theorem d_LW_law_113 : decode b_LW_law 113 = .ok (.aload_n 0, 1) := by decide +kernel
theorem d_LW_law_114 : decode b_LW_law 114 = .ok (.iload 4, 2) := by decide +kernel
theorem d_LW_law_116 : decode b_LW_law 116 = .ok (.iconst 5, 1) := by decide +kernel
theorem d_LW_law_117 : decode b_LW_law 117 = .ok (.iadd, 1) := by decide +kernel
theorem d_LW_law_118 : decode b_LW_law 118 = .ok (.iaload, 1) := by decide +kernel
theorem d_LW_law_119 : decode b_LW_law 119 = .ok (.aload_n 3, 1) := by decide +kernel
theorem d_LW_law_120 : decode b_LW_law 120 = .ok (.invokestatic 44, 3) := by decide +kernel
theorem d_LW_law_123 : decode b_LW_law 123 = .ok (.istore 5, 2) := by decide +kernel
theorem d_LW_law_125 : decode b_LW_law 125 = .ok (.aload_n 2, 1) := by decide +kernel
theorem d_LW_law_126 : decode b_LW_law 126 = .ok (.aload_n 0, 1) := by decide +kernel
theorem d_LW_law_127 : decode b_LW_law 127 = .ok (.iload 4, 2) := by decide +kernel
theorem d_LW_law_129 : decode b_LW_law 129 = .ok (.iconst 1, 1) := by decide +kernel
theorem d_LW_law_130 : decode b_LW_law 130 = .ok (.iadd, 1) := by decide +kernel
theorem d_LW_law_131 : decode b_LW_law 131 = .ok (.iaload, 1) := by decide +kernel
theorem d_LW_law_132 : decode b_LW_law 132 = .ok (.aload_n 0, 1) := by decide +kernel
theorem d_LW_law_133 : decode b_LW_law 133 = .ok (.iload 4, 2) := by decide +kernel
theorem d_LW_law_135 : decode b_LW_law 135 = .ok (.iconst 2, 1) := by decide +kernel
theorem d_LW_law_136 : decode b_LW_law 136 = .ok (.iadd, 1) := by decide +kernel
theorem d_LW_law_137 : decode b_LW_law 137 = .ok (.iaload, 1) := by decide +kernel
theorem d_LW_law_138 : decode b_LW_law 138 = .ok (.aload_n 0, 1) := by decide +kernel
theorem d_LW_law_139 : decode b_LW_law 139 = .ok (.iload 4, 2) := by decide +kernel
theorem d_LW_law_141 : decode b_LW_law 141 = .ok (.iconst 3, 1) := by decide +kernel
theorem d_LW_law_142 : decode b_LW_law 142 = .ok (.iadd, 1) := by decide +kernel
theorem d_LW_law_143 : decode b_LW_law 143 = .ok (.iaload, 1) := by decide +kernel
theorem d_LW_law_144 : decode b_LW_law 144 = .ok (.aload_n 0, 1) := by decide +kernel
theorem d_LW_law_145 : decode b_LW_law 145 = .ok (.iload 4, 2) := by decide +kernel
theorem d_LW_law_147 : decode b_LW_law 147 = .ok (.iconst 4, 1) := by decide +kernel
theorem d_LW_law_148 : decode b_LW_law 148 = .ok (.iadd, 1) := by decide +kernel
theorem d_LW_law_149 : decode b_LW_law 149 = .ok (.iaload, 1) := by decide +kernel
theorem d_LW_law_150 : decode b_LW_law 150 = .ok (.aload_n 0, 1) := by decide +kernel
theorem d_LW_law_151 : decode b_LW_law 151 = .ok (.iload 4, 2) := by decide +kernel
theorem d_LW_law_153 : decode b_LW_law 153 = .ok (.iconst 5, 1) := by decide +kernel
theorem d_LW_law_154 : decode b_LW_law 154 = .ok (.iadd, 1) := by decide +kernel
theorem d_LW_law_155 : decode b_LW_law 155 = .ok (.iaload, 1) := by decide +kernel
theorem d_LW_law_156 : decode b_LW_law 156 = .ok (.invokevirtual 49, 3) := by decide +kernel
theorem d_LW_law_159 : decode b_LW_law 159 = .ok (.istore 6, 2) := by decide +kernel
theorem d_LW_law_161 : decode b_LW_law 161 = .ok (.aload_n 2, 1) := by decide +kernel
theorem d_LW_law_162 : decode b_LW_law 162 = .ok (.invokevirtual 50, 3) := by decide +kernel
theorem d_LW_law_165 : decode b_LW_law 165 = .ok (.iload 5, 2) := by decide +kernel
theorem d_LW_law_167 : decode b_LW_law 167 = .ok (.if_icmp .eq 5, 3) := by decide +kernel
theorem d_LW_law_170 : decode b_LW_law 170 = .ok (.iconst 0, 1) := by decide +kernel
theorem d_LW_law_171 : decode b_LW_law 171 = .ok (.ireturn, 1) := by decide +kernel
theorem d_LW_law_172 : decode b_LW_law 172 = .ok (.iload 5, 2) := by decide +kernel
theorem d_LW_law_174 : decode b_LW_law 174 = .ok (.ifCond .ne 15, 3) := by decide +kernel
theorem d_LW_law_177 : decode b_LW_law 177 = .ok (.aload_n 3, 1) := by decide +kernel
theorem d_LW_law_178 : decode b_LW_law 178 = .ok (.iconst 0, 1) := by decide +kernel
theorem d_LW_law_179 : decode b_LW_law 179 = .ok (.laload, 1) := by decide +kernel
theorem d_LW_law_180 : decode b_LW_law 180 = .ok (.iload 6, 2) := by decide +kernel
theorem d_LW_law_182 : decode b_LW_law 182 = .ok (.i2l, 1) := by decide +kernel
theorem d_LW_law_183 : decode b_LW_law 183 = .ok (.lcmp, 1) := by decide +kernel
theorem d_LW_law_184 : decode b_LW_law 184 = .ok (.ifCond .eq 5, 3) := by decide +kernel
theorem d_LW_law_187 : decode b_LW_law 187 = .ok (.iconst 0, 1) := by decide +kernel
theorem d_LW_law_188 : decode b_LW_law 188 = .ok (.ireturn, 1) := by decide +kernel
theorem d_LW_law_189 : decode b_LW_law 189 = .ok (.goto 331, 3) := by decide +kernel
theorem d_LW_law_192 : decode b_LW_law 192 = .ok (.aload_n 1, 1) := by decide +kernel
theorem d_LW_law_193 : decode b_LW_law 193 = .ok (.aload_n 0, 1) := by decide +kernel
theorem d_LW_law_194 : decode b_LW_law 194 = .ok (.iload 4, 2) := by decide +kernel
theorem d_LW_law_196 : decode b_LW_law 196 = .ok (.iconst 1, 1) := by decide +kernel
theorem d_LW_law_197 : decode b_LW_law 197 = .ok (.iadd, 1) := by decide +kernel
theorem d_LW_law_198 : decode b_LW_law 198 = .ok (.iaload, 1) := by decide +kernel
theorem d_LW_law_199 : decode b_LW_law 199 = .ok (.aload_n 3, 1) := by decide +kernel
theorem d_LW_law_200 : decode b_LW_law 200 = .ok (.invokestatic 54, 3) := by decide +kernel
theorem d_LW_law_203 : decode b_LW_law 203 = .ok (.istore 5, 2) := by decide +kernel
theorem d_LW_law_205 : decode b_LW_law 205 = .ok (.aload_n 2, 1) := by decide +kernel
theorem d_LW_law_206 : decode b_LW_law 206 = .ok (.aload_n 0, 1) := by decide +kernel
theorem d_LW_law_207 : decode b_LW_law 207 = .ok (.iload 4, 2) := by decide +kernel
theorem d_LW_law_209 : decode b_LW_law 209 = .ok (.iconst 1, 1) := by decide +kernel
theorem d_LW_law_210 : decode b_LW_law 210 = .ok (.iadd, 1) := by decide +kernel
theorem d_LW_law_211 : decode b_LW_law 211 = .ok (.iaload, 1) := by decide +kernel
theorem d_LW_law_212 : decode b_LW_law 212 = .ok (.invokevirtual 57, 3) := by decide +kernel
theorem d_LW_law_215 : decode b_LW_law 215 = .ok (.istore 6, 2) := by decide +kernel
theorem d_LW_law_217 : decode b_LW_law 217 = .ok (.aload_n 2, 1) := by decide +kernel
theorem d_LW_law_218 : decode b_LW_law 218 = .ok (.invokevirtual 50, 3) := by decide +kernel
theorem d_LW_law_221 : decode b_LW_law 221 = .ok (.iload 5, 2) := by decide +kernel
theorem d_LW_law_223 : decode b_LW_law 223 = .ok (.if_icmp .eq 5, 3) := by decide +kernel
theorem d_LW_law_226 : decode b_LW_law 226 = .ok (.iconst 0, 1) := by decide +kernel
theorem d_LW_law_227 : decode b_LW_law 227 = .ok (.ireturn, 1) := by decide +kernel
theorem d_LW_law_228 : decode b_LW_law 228 = .ok (.iload 5, 2) := by decide +kernel
theorem d_LW_law_230 : decode b_LW_law 230 = .ok (.ifCond .ne 15, 3) := by decide +kernel
theorem d_LW_law_233 : decode b_LW_law 233 = .ok (.aload_n 3, 1) := by decide +kernel
theorem d_LW_law_234 : decode b_LW_law 234 = .ok (.iconst 0, 1) := by decide +kernel
theorem d_LW_law_235 : decode b_LW_law 235 = .ok (.laload, 1) := by decide +kernel
theorem d_LW_law_236 : decode b_LW_law 236 = .ok (.iload 6, 2) := by decide +kernel
theorem d_LW_law_238 : decode b_LW_law 238 = .ok (.i2l, 1) := by decide +kernel
theorem d_LW_law_239 : decode b_LW_law 239 = .ok (.lcmp, 1) := by decide +kernel
theorem d_LW_law_240 : decode b_LW_law 240 = .ok (.ifCond .eq 5, 3) := by decide +kernel
theorem d_LW_law_243 : decode b_LW_law 243 = .ok (.iconst 0, 1) := by decide +kernel
theorem d_LW_law_244 : decode b_LW_law 244 = .ok (.ireturn, 1) := by decide +kernel
theorem d_LW_law_245 : decode b_LW_law 245 = .ok (.goto 275, 3) := by decide +kernel
theorem d_LW_law_248 : decode b_LW_law 248 = .ok (.aload_n 1, 1) := by decide +kernel
theorem d_LW_law_249 : decode b_LW_law 249 = .ok (.invokevirtual 58, 3) := by decide +kernel
theorem d_LW_law_252 : decode b_LW_law 252 = .ok (.aload_n 2, 1) := by decide +kernel
theorem d_LW_law_253 : decode b_LW_law 253 = .ok (.invokevirtual 61, 3) := by decide +kernel
theorem d_LW_law_256 : decode b_LW_law 256 = .ok (.if_icmp .eq 264, 3) := by decide +kernel
theorem d_LW_law_259 : decode b_LW_law 259 = .ok (.iconst 0, 1) := by decide +kernel
theorem d_LW_law_260 : decode b_LW_law 260 = .ok (.ireturn, 1) := by decide +kernel
theorem d_LW_law_261 : decode b_LW_law 261 = .ok (.aload_n 1, 1) := by decide +kernel
theorem d_LW_law_262 : decode b_LW_law 262 = .ok (.aload_n 0, 1) := by decide +kernel
theorem d_LW_law_263 : decode b_LW_law 263 = .ok (.iload 4, 2) := by decide +kernel
theorem d_LW_law_265 : decode b_LW_law 265 = .ok (.iconst 1, 1) := by decide +kernel
theorem d_LW_law_266 : decode b_LW_law 266 = .ok (.iadd, 1) := by decide +kernel
theorem d_LW_law_267 : decode b_LW_law 267 = .ok (.iaload, 1) := by decide +kernel
theorem d_LW_law_268 : decode b_LW_law 268 = .ok (.aload_n 3, 1) := by decide +kernel
theorem d_LW_law_269 : decode b_LW_law 269 = .ok (.invokestatic 62, 3) := by decide +kernel
theorem d_LW_law_272 : decode b_LW_law 272 = .ok (.istore 5, 2) := by decide +kernel
theorem d_LW_law_274 : decode b_LW_law 274 = .ok (.aload_n 2, 1) := by decide +kernel
theorem d_LW_law_275 : decode b_LW_law 275 = .ok (.aload_n 0, 1) := by decide +kernel
theorem d_LW_law_276 : decode b_LW_law 276 = .ok (.iload 4, 2) := by decide +kernel
theorem d_LW_law_278 : decode b_LW_law 278 = .ok (.iconst 1, 1) := by decide +kernel
theorem d_LW_law_279 : decode b_LW_law 279 = .ok (.iadd, 1) := by decide +kernel
theorem d_LW_law_280 : decode b_LW_law 280 = .ok (.iaload, 1) := by decide +kernel
theorem d_LW_law_281 : decode b_LW_law 281 = .ok (.invokevirtual 64, 3) := by decide +kernel
theorem d_LW_law_284 : decode b_LW_law 284 = .ok (.istore 6, 2) := by decide +kernel
theorem d_LW_law_286 : decode b_LW_law 286 = .ok (.aload_n 2, 1) := by decide +kernel
theorem d_LW_law_287 : decode b_LW_law 287 = .ok (.invokevirtual 50, 3) := by decide +kernel
theorem d_LW_law_290 : decode b_LW_law 290 = .ok (.iload 5, 2) := by decide +kernel
theorem d_LW_law_292 : decode b_LW_law 292 = .ok (.if_icmp .eq 5, 3) := by decide +kernel
theorem d_LW_law_295 : decode b_LW_law 295 = .ok (.iconst 0, 1) := by decide +kernel
theorem d_LW_law_296 : decode b_LW_law 296 = .ok (.ireturn, 1) := by decide +kernel
theorem d_LW_law_297 : decode b_LW_law 297 = .ok (.iload 5, 2) := by decide +kernel
theorem d_LW_law_299 : decode b_LW_law 299 = .ok (.ifCond .ne 15, 3) := by decide +kernel
theorem d_LW_law_302 : decode b_LW_law 302 = .ok (.aload_n 3, 1) := by decide +kernel
theorem d_LW_law_303 : decode b_LW_law 303 = .ok (.iconst 0, 1) := by decide +kernel
theorem d_LW_law_304 : decode b_LW_law 304 = .ok (.laload, 1) := by decide +kernel
theorem d_LW_law_305 : decode b_LW_law 305 = .ok (.iload 6, 2) := by decide +kernel
theorem d_LW_law_307 : decode b_LW_law 307 = .ok (.i2l, 1) := by decide +kernel
theorem d_LW_law_308 : decode b_LW_law 308 = .ok (.lcmp, 1) := by decide +kernel
theorem d_LW_law_309 : decode b_LW_law 309 = .ok (.ifCond .eq 5, 3) := by decide +kernel
theorem d_LW_law_312 : decode b_LW_law 312 = .ok (.iconst 0, 1) := by decide +kernel
theorem d_LW_law_313 : decode b_LW_law 313 = .ok (.ireturn, 1) := by decide +kernel
theorem d_LW_law_314 : decode b_LW_law 314 = .ok (.goto 206, 3) := by decide +kernel
theorem d_LW_law_317 : decode b_LW_law 317 = .ok (.aload_n 1, 1) := by decide +kernel
theorem d_LW_law_318 : decode b_LW_law 318 = .ok (.aload_n 0, 1) := by decide +kernel
theorem d_LW_law_319 : decode b_LW_law 319 = .ok (.iload 4, 2) := by decide +kernel
theorem d_LW_law_321 : decode b_LW_law 321 = .ok (.iconst 1, 1) := by decide +kernel
theorem d_LW_law_322 : decode b_LW_law 322 = .ok (.iadd, 1) := by decide +kernel
theorem d_LW_law_323 : decode b_LW_law 323 = .ok (.iaload, 1) := by decide +kernel
theorem d_LW_law_324 : decode b_LW_law 324 = .ok (.aload_n 3, 1) := by decide +kernel
theorem d_LW_law_325 : decode b_LW_law 325 = .ok (.invokestatic 65, 3) := by decide +kernel
theorem d_LW_law_328 : decode b_LW_law 328 = .ok (.istore 5, 2) := by decide +kernel
theorem d_LW_law_330 : decode b_LW_law 330 = .ok (.aload_n 2, 1) := by decide +kernel
theorem d_LW_law_331 : decode b_LW_law 331 = .ok (.aload_n 0, 1) := by decide +kernel
theorem d_LW_law_332 : decode b_LW_law 332 = .ok (.iload 4, 2) := by decide +kernel
theorem d_LW_law_334 : decode b_LW_law 334 = .ok (.iconst 1, 1) := by decide +kernel
theorem d_LW_law_335 : decode b_LW_law 335 = .ok (.iadd, 1) := by decide +kernel
theorem d_LW_law_336 : decode b_LW_law 336 = .ok (.iaload, 1) := by decide +kernel
theorem d_LW_law_337 : decode b_LW_law 337 = .ok (.invokevirtual 67, 3) := by decide +kernel
theorem d_LW_law_340 : decode b_LW_law 340 = .ok (.istore 6, 2) := by decide +kernel
theorem d_LW_law_342 : decode b_LW_law 342 = .ok (.aload_n 2, 1) := by decide +kernel
theorem d_LW_law_343 : decode b_LW_law 343 = .ok (.invokevirtual 50, 3) := by decide +kernel
theorem d_LW_law_346 : decode b_LW_law 346 = .ok (.iload 5, 2) := by decide +kernel
theorem d_LW_law_348 : decode b_LW_law 348 = .ok (.if_icmp .eq 5, 3) := by decide +kernel
theorem d_LW_law_351 : decode b_LW_law 351 = .ok (.iconst 0, 1) := by decide +kernel
theorem d_LW_law_352 : decode b_LW_law 352 = .ok (.ireturn, 1) := by decide +kernel
theorem d_LW_law_353 : decode b_LW_law 353 = .ok (.iload 5, 2) := by decide +kernel
theorem d_LW_law_355 : decode b_LW_law 355 = .ok (.ifCond .ne 15, 3) := by decide +kernel
theorem d_LW_law_358 : decode b_LW_law 358 = .ok (.aload_n 3, 1) := by decide +kernel
theorem d_LW_law_359 : decode b_LW_law 359 = .ok (.iconst 0, 1) := by decide +kernel
theorem d_LW_law_360 : decode b_LW_law 360 = .ok (.laload, 1) := by decide +kernel
theorem d_LW_law_361 : decode b_LW_law 361 = .ok (.iload 6, 2) := by decide +kernel
theorem d_LW_law_363 : decode b_LW_law 363 = .ok (.i2l, 1) := by decide +kernel
theorem d_LW_law_364 : decode b_LW_law 364 = .ok (.lcmp, 1) := by decide +kernel
theorem d_LW_law_365 : decode b_LW_law 365 = .ok (.ifCond .eq 5, 3) := by decide +kernel
theorem d_LW_law_368 : decode b_LW_law 368 = .ok (.iconst 0, 1) := by decide +kernel
theorem d_LW_law_369 : decode b_LW_law 369 = .ok (.ireturn, 1) := by decide +kernel
theorem d_LW_law_370 : decode b_LW_law 370 = .ok (.goto 150, 3) := by decide +kernel
theorem d_LW_law_373 : decode b_LW_law 373 = .ok (.aload_n 1, 1) := by decide +kernel
theorem d_LW_law_374 : decode b_LW_law 374 = .ok (.aload_n 0, 1) := by decide +kernel
theorem d_LW_law_375 : decode b_LW_law 375 = .ok (.iload 4, 2) := by decide +kernel
theorem d_LW_law_377 : decode b_LW_law 377 = .ok (.iconst 1, 1) := by decide +kernel
theorem d_LW_law_378 : decode b_LW_law 378 = .ok (.iadd, 1) := by decide +kernel
theorem d_LW_law_379 : decode b_LW_law 379 = .ok (.iaload, 1) := by decide +kernel
theorem d_LW_law_380 : decode b_LW_law 380 = .ok (.invokestatic 68, 3) := by decide +kernel
theorem d_LW_law_383 : decode b_LW_law 383 = .ok (.istore 5, 2) := by decide +kernel
theorem d_LW_law_385 : decode b_LW_law 385 = .ok (.aload_n 2, 1) := by decide +kernel
theorem d_LW_law_386 : decode b_LW_law 386 = .ok (.aload_n 0, 1) := by decide +kernel
theorem d_LW_law_387 : decode b_LW_law 387 = .ok (.iload 4, 2) := by decide +kernel
theorem d_LW_law_389 : decode b_LW_law 389 = .ok (.iconst 1, 1) := by decide +kernel
theorem d_LW_law_390 : decode b_LW_law 390 = .ok (.iadd, 1) := by decide +kernel
theorem d_LW_law_391 : decode b_LW_law 391 = .ok (.iaload, 1) := by decide +kernel
theorem d_LW_law_392 : decode b_LW_law 392 = .ok (.invokevirtual 71, 3) := by decide +kernel
theorem d_LW_law_395 : decode b_LW_law 395 = .ok (.aload_n 2, 1) := by decide +kernel
theorem d_LW_law_396 : decode b_LW_law 396 = .ok (.invokevirtual 50, 3) := by decide +kernel
theorem d_LW_law_399 : decode b_LW_law 399 = .ok (.iload 5, 2) := by decide +kernel
theorem d_LW_law_401 : decode b_LW_law 401 = .ok (.if_icmp .eq 5, 3) := by decide +kernel
theorem d_LW_law_404 : decode b_LW_law 404 = .ok (.iconst 0, 1) := by decide +kernel
theorem d_LW_law_405 : decode b_LW_law 405 = .ok (.ireturn, 1) := by decide +kernel
theorem d_LW_law_406 : decode b_LW_law 406 = .ok (.goto 114, 3) := by decide +kernel
theorem d_LW_law_409 : decode b_LW_law 409 = .ok (.aload_n 1, 1) := by decide +kernel
theorem d_LW_law_410 : decode b_LW_law 410 = .ok (.aload_n 0, 1) := by decide +kernel
theorem d_LW_law_411 : decode b_LW_law 411 = .ok (.iload 4, 2) := by decide +kernel
theorem d_LW_law_413 : decode b_LW_law 413 = .ok (.iconst 1, 1) := by decide +kernel
theorem d_LW_law_414 : decode b_LW_law 414 = .ok (.iadd, 1) := by decide +kernel
theorem d_LW_law_415 : decode b_LW_law 415 = .ok (.iaload, 1) := by decide +kernel
theorem d_LW_law_416 : decode b_LW_law 416 = .ok (.aload_n 3, 1) := by decide +kernel
theorem d_LW_law_417 : decode b_LW_law 417 = .ok (.invokestatic 72, 3) := by decide +kernel
theorem d_LW_law_420 : decode b_LW_law 420 = .ok (.istore 5, 2) := by decide +kernel
theorem d_LW_law_422 : decode b_LW_law 422 = .ok (.aload_n 2, 1) := by decide +kernel
theorem d_LW_law_423 : decode b_LW_law 423 = .ok (.aload_n 0, 1) := by decide +kernel
theorem d_LW_law_424 : decode b_LW_law 424 = .ok (.iload 4, 2) := by decide +kernel
theorem d_LW_law_426 : decode b_LW_law 426 = .ok (.iconst 1, 1) := by decide +kernel
theorem d_LW_law_427 : decode b_LW_law 427 = .ok (.iadd, 1) := by decide +kernel
theorem d_LW_law_428 : decode b_LW_law 428 = .ok (.iaload, 1) := by decide +kernel
theorem d_LW_law_429 : decode b_LW_law 429 = .ok (.invokevirtual 74, 3) := by decide +kernel
theorem d_LW_law_432 : decode b_LW_law 432 = .ok (.lstore 6, 2) := by decide +kernel
theorem d_LW_law_434 : decode b_LW_law 434 = .ok (.aload_n 2, 1) := by decide +kernel
theorem d_LW_law_435 : decode b_LW_law 435 = .ok (.invokevirtual 50, 3) := by decide +kernel
theorem d_LW_law_438 : decode b_LW_law 438 = .ok (.iload 5, 2) := by decide +kernel
theorem d_LW_law_440 : decode b_LW_law 440 = .ok (.if_icmp .eq 5, 3) := by decide +kernel
theorem d_LW_law_443 : decode b_LW_law 443 = .ok (.iconst 0, 1) := by decide +kernel
theorem d_LW_law_444 : decode b_LW_law 444 = .ok (.ireturn, 1) := by decide +kernel
theorem d_LW_law_445 : decode b_LW_law 445 = .ok (.iload 5, 2) := by decide +kernel
theorem d_LW_law_447 : decode b_LW_law 447 = .ok (.ifCond .ne 14, 3) := by decide +kernel
theorem d_LW_law_450 : decode b_LW_law 450 = .ok (.aload_n 3, 1) := by decide +kernel
theorem d_LW_law_451 : decode b_LW_law 451 = .ok (.iconst 0, 1) := by decide +kernel
theorem d_LW_law_452 : decode b_LW_law 452 = .ok (.laload, 1) := by decide +kernel
theorem d_LW_law_453 : decode b_LW_law 453 = .ok (.lload 6, 2) := by decide +kernel
theorem d_LW_law_455 : decode b_LW_law 455 = .ok (.lcmp, 1) := by decide +kernel
theorem d_LW_law_456 : decode b_LW_law 456 = .ok (.ifCond .eq 5, 3) := by decide +kernel
theorem d_LW_law_459 : decode b_LW_law 459 = .ok (.iconst 0, 1) := by decide +kernel
theorem d_LW_law_460 : decode b_LW_law 460 = .ok (.ireturn, 1) := by decide +kernel
theorem d_LW_law_461 : decode b_LW_law 461 = .ok (.goto 59, 3) := by decide +kernel
theorem d_LW_law_464 : decode b_LW_law 464 = .ok (.aload_n 1, 1) := by decide +kernel
theorem d_LW_law_465 : decode b_LW_law 465 = .ok (.aload_n 0, 1) := by decide +kernel
theorem d_LW_law_466 : decode b_LW_law 466 = .ok (.iload 4, 2) := by decide +kernel
theorem d_LW_law_468 : decode b_LW_law 468 = .ok (.iconst 1, 1) := by decide +kernel
theorem d_LW_law_469 : decode b_LW_law 469 = .ok (.iadd, 1) := by decide +kernel
theorem d_LW_law_470 : decode b_LW_law 470 = .ok (.iaload, 1) := by decide +kernel
theorem d_LW_law_471 : decode b_LW_law 471 = .ok (.aload_n 3, 1) := by decide +kernel
theorem d_LW_law_472 : decode b_LW_law 472 = .ok (.invokestatic 75, 3) := by decide +kernel
theorem d_LW_law_475 : decode b_LW_law 475 = .ok (.istore 5, 2) := by decide +kernel
theorem d_LW_law_477 : decode b_LW_law 477 = .ok (.aload_n 2, 1) := by decide +kernel
theorem d_LW_law_478 : decode b_LW_law 478 = .ok (.aload_n 0, 1) := by decide +kernel
theorem d_LW_law_479 : decode b_LW_law 479 = .ok (.iload 4, 2) := by decide +kernel
theorem d_LW_law_481 : decode b_LW_law 481 = .ok (.iconst 1, 1) := by decide +kernel
theorem d_LW_law_482 : decode b_LW_law 482 = .ok (.iadd, 1) := by decide +kernel
theorem d_LW_law_483 : decode b_LW_law 483 = .ok (.iaload, 1) := by decide +kernel
theorem d_LW_law_484 : decode b_LW_law 484 = .ok (.invokevirtual 77, 3) := by decide +kernel
theorem d_LW_law_487 : decode b_LW_law 487 = .ok (.istore 6, 2) := by decide +kernel
theorem d_LW_law_489 : decode b_LW_law 489 = .ok (.aload_n 2, 1) := by decide +kernel
theorem d_LW_law_490 : decode b_LW_law 490 = .ok (.invokevirtual 50, 3) := by decide +kernel
theorem d_LW_law_493 : decode b_LW_law 493 = .ok (.iload 5, 2) := by decide +kernel
theorem d_LW_law_495 : decode b_LW_law 495 = .ok (.if_icmp .eq 5, 3) := by decide +kernel
theorem d_LW_law_498 : decode b_LW_law 498 = .ok (.iconst 0, 1) := by decide +kernel
theorem d_LW_law_499 : decode b_LW_law 499 = .ok (.ireturn, 1) := by decide +kernel
theorem d_LW_law_500 : decode b_LW_law 500 = .ok (.iload 5, 2) := by decide +kernel
theorem d_LW_law_502 : decode b_LW_law 502 = .ok (.ifCond .ne 15, 3) := by decide +kernel
theorem d_LW_law_505 : decode b_LW_law 505 = .ok (.aload_n 3, 1) := by decide +kernel
theorem d_LW_law_506 : decode b_LW_law 506 = .ok (.iconst 0, 1) := by decide +kernel
theorem d_LW_law_507 : decode b_LW_law 507 = .ok (.laload, 1) := by decide +kernel
theorem d_LW_law_508 : decode b_LW_law 508 = .ok (.iload 6, 2) := by decide +kernel
theorem d_LW_law_510 : decode b_LW_law 510 = .ok (.i2l, 1) := by decide +kernel
theorem d_LW_law_511 : decode b_LW_law 511 = .ok (.lcmp, 1) := by decide +kernel
theorem d_LW_law_512 : decode b_LW_law 512 = .ok (.ifCond .eq 5, 3) := by decide +kernel
theorem d_LW_law_515 : decode b_LW_law 515 = .ok (.iconst 0, 1) := by decide +kernel
theorem d_LW_law_516 : decode b_LW_law 516 = .ok (.ireturn, 1) := by decide +kernel
theorem d_LW_law_517 : decode b_LW_law 517 = .ok (.goto 3, 3) := by decide +kernel
theorem d_LW_law_520 : decode b_LW_law 520 = .ok (.iinc 4 6, 3) := by decide +kernel
theorem d_LW_law_523 : decode b_LW_law 523 = .ok (.goto (-500), 3) := by decide +kernel
theorem d_LW_law_526 : decode b_LW_law 526 = .ok (.iconst 1, 1) := by decide +kernel
theorem d_LW_law_527 : decode b_LW_law 527 = .ok (.ireturn, 1) := by decide +kernel
