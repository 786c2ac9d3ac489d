theorem d_L_change_0 : decode b_L_change 0 = .ok (.aload 4, 2) := by decide +kernel
theorem d_L_change_2 : decode b_L_change 2 = .ok (.iconst 0, 1) := by decide +kernel
theorem d_L_change_3 : decode b_L_change 3 = .ok (.aload_n 0, 1) := by decide +kernel
theorem d_L_change_4 : decode b_L_change 4 = .ok (.iload_n 1, 1) := by decide +kernel
theorem d_L_change_5 : decode b_L_change 5 = .ok (.iload_n 2, 1) := by decide +kernel
theorem d_L_change_6 : decode b_L_change 6 = .ok (.iload_n 3, 1) := by decide +kernel
theorem d_L_change_7 : decode b_L_change 7 = .ok (.invokevirtual 7, 3) := by decide +kernel
theorem d_L_change_10 : decode b_L_change 10 = .ok (.i2l, 1) := by decide +kernel
theorem d_L_change_11 : decode b_L_change 11 = .ok (.lastore, 1) := by decide +kernel
theorem d_L_change_12 : decode b_L_change 12 = .ok (.goto 11, 3) := by decide +kernel
theorem d_L_change_15 : decode b_L_change 15 = .ok (.astore 5, 2) := by decide +kernel
theorem d_L_change_17 : decode b_L_change 17 = .ok (.iconst 1, 1) := by decide +kernel
theorem d_L_change_18 : decode b_L_change 18 = .ok (.ireturn, 1) := by decide +kernel
theorem d_L_change_19 : decode b_L_change 19 = .ok (.astore 5, 2) := by decide +kernel
theorem d_L_change_21 : decode b_L_change 21 = .ok (.iconst 2, 1) := by decide +kernel
theorem d_L_change_22 : decode b_L_change 22 = .ok (.ireturn, 1) := by decide +kernel
theorem d_L_change_23 : decode b_L_change 23 = .ok (.iconst 0, 1) := by decide +kernel
theorem d_L_change_24 : decode b_L_change 24 = .ok (.ireturn, 1) := by decide +kernel
theorem d_L_apply_0 : decode b_L_apply 0 = .ok (.aload_n 1, 1) := by decide +kernel
theorem d_L_apply_1 : decode b_L_apply 1 = .ok (.iconst 0, 1) := by decide +kernel
theorem d_L_apply_2 : decode b_L_apply 2 = .ok (.aload_n 0, 1) := by decide +kernel
theorem d_L_apply_3 : decode b_L_apply 3 = .ok (.invokevirtual 17, 3) := by decide +kernel
theorem d_L_apply_6 : decode b_L_apply 6 = .ok (.i2l, 1) := by decide +kernel
theorem d_L_apply_7 : decode b_L_apply 7 = .ok (.lastore, 1) := by decide +kernel
theorem d_L_apply_8 : decode b_L_apply 8 = .ok (.goto 6, 3) := by decide +kernel
theorem d_L_apply_11 : decode b_L_apply 11 = .ok (.astore_n 2, 1) := by decide +kernel
theorem d_L_apply_12 : decode b_L_apply 12 = .ok (.iconst 1, 1) := by decide +kernel
theorem d_L_apply_13 : decode b_L_apply 13 = .ok (.ireturn, 1) := by decide +kernel
theorem d_L_apply_14 : decode b_L_apply 14 = .ok (.iconst 0, 1) := by decide +kernel
theorem d_L_apply_15 : decode b_L_apply 15 = .ok (.ireturn, 1) := by decide +kernel
theorem d_L_holds_0 : decode b_L_holds 0 = .ok (.aload_n 3, 1) := by decide +kernel
theorem d_L_holds_1 : decode b_L_holds 1 = .ok (.iconst 0, 1) := by decide +kernel
theorem d_L_holds_2 : decode b_L_holds 2 = .ok (.aload_n 0, 1) := by decide +kernel
theorem d_L_holds_3 : decode b_L_holds 3 = .ok (.iload_n 1, 1) := by decide +kernel
theorem d_L_holds_4 : decode b_L_holds 4 = .ok (.iload_n 2, 1) := by decide +kernel
theorem d_L_holds_5 : decode b_L_holds 5 = .ok (.invokevirtual 23, 3) := by decide +kernel
theorem d_L_holds_8 : decode b_L_holds 8 = .ok (.ifCond .eq 7, 3) := by decide +kernel
theorem d_L_holds_11 : decode b_L_holds 11 = .ok (.lconst 1, 1) := by decide +kernel
theorem d_L_holds_12 : decode b_L_holds 12 = .ok (.goto 4, 3) := by decide +kernel
theorem d_L_holds_15 : decode b_L_holds 15 = .ok (.lconst 0, 1) := by decide +kernel
theorem d_L_holds_16 : decode b_L_holds 16 = .ok (.lastore, 1) := by decide +kernel
theorem d_L_holds_17 : decode b_L_holds 17 = .ok (.goto 7, 3) := by decide +kernel
theorem d_L_holds_20 : decode b_L_holds 20 = .ok (.astore 4, 2) := by decide +kernel
theorem d_L_holds_22 : decode b_L_holds 22 = .ok (.iconst 1, 1) := by decide +kernel
theorem d_L_holds_23 : decode b_L_holds 23 = .ok (.ireturn, 1) := by decide +kernel
theorem d_L_holds_24 : decode b_L_holds 24 = .ok (.iconst 0, 1) := by decide +kernel
theorem d_L_holds_25 : decode b_L_holds 25 = .ok (.ireturn, 1) := by decide +kernel
theorem d_L_came_0 : decode b_L_came 0 = .ok (.aload_n 2, 1) := by decide +kernel
theorem d_L_came_1 : decode b_L_came 1 = .ok (.iconst 0, 1) := by decide +kernel
theorem d_L_came_2 : decode b_L_came 2 = .ok (.aload_n 0, 1) := by decide +kernel
theorem d_L_came_3 : decode b_L_came 3 = .ok (.iload_n 1, 1) := by decide +kernel
theorem d_L_came_4 : decode b_L_came 4 = .ok (.invokevirtual 27, 3) := by decide +kernel
theorem d_L_came_7 : decode b_L_came 7 = .ok (.i2l, 1) := by decide +kernel
theorem d_L_came_8 : decode b_L_came 8 = .ok (.lastore, 1) := by decide +kernel
theorem d_L_came_9 : decode b_L_came 9 = .ok (.goto 6, 3) := by decide +kernel
theorem d_L_came_12 : decode b_L_came 12 = .ok (.astore_n 3, 1) := by decide +kernel
theorem d_L_came_13 : decode b_L_came 13 = .ok (.iconst 1, 1) := by decide +kernel
theorem d_L_came_14 : decode b_L_came 14 = .ok (.ireturn, 1) := by decide +kernel
theorem d_L_came_15 : decode b_L_came 15 = .ok (.iconst 0, 1) := by decide +kernel
theorem d_L_came_16 : decode b_L_came 16 = .ok (.ireturn, 1) := by decide +kernel
theorem d_L_went_0 : decode b_L_went 0 = .ok (.aload_n 2, 1) := by decide +kernel
theorem d_L_went_1 : decode b_L_went 1 = .ok (.iconst 0, 1) := by decide +kernel
theorem d_L_went_2 : decode b_L_went 2 = .ok (.aload_n 0, 1) := by decide +kernel
theorem d_L_went_3 : decode b_L_went 3 = .ok (.iload_n 1, 1) := by decide +kernel
theorem d_L_went_4 : decode b_L_went 4 = .ok (.invokevirtual 33, 3) := by decide +kernel
theorem d_L_went_7 : decode b_L_went 7 = .ok (.i2l, 1) := by decide +kernel
theorem d_L_went_8 : decode b_L_went 8 = .ok (.lastore, 1) := by decide +kernel
theorem d_L_went_9 : decode b_L_went 9 = .ok (.goto 6, 3) := by decide +kernel
theorem d_L_went_12 : decode b_L_went 12 = .ok (.astore_n 3, 1) := by decide +kernel
theorem d_L_went_13 : decode b_L_went 13 = .ok (.iconst 1, 1) := by decide +kernel
theorem d_L_went_14 : decode b_L_went 14 = .ok (.ireturn, 1) := by decide +kernel
theorem d_L_went_15 : decode b_L_went 15 = .ok (.iconst 0, 1) := by decide +kernel
theorem d_L_went_16 : decode b_L_went 16 = .ok (.ireturn, 1) := by decide +kernel
theorem d_L_distance_0 : decode b_L_distance 0 = .ok (.aload_n 3, 1) := by decide +kernel
theorem d_L_distance_1 : decode b_L_distance 1 = .ok (.iconst 0, 1) := by decide +kernel
theorem d_L_distance_2 : decode b_L_distance 2 = .ok (.aload_n 0, 1) := by decide +kernel
theorem d_L_distance_3 : decode b_L_distance 3 = .ok (.iload_n 1, 1) := by decide +kernel
theorem d_L_distance_4 : decode b_L_distance 4 = .ok (.iload_n 2, 1) := by decide +kernel
theorem d_L_distance_5 : decode b_L_distance 5 = .ok (.invokevirtual 36, 3) := by decide +kernel
theorem d_L_distance_8 : decode b_L_distance 8 = .ok (.i2l, 1) := by decide +kernel
theorem d_L_distance_9 : decode b_L_distance 9 = .ok (.lastore, 1) := by decide +kernel
theorem d_L_distance_10 : decode b_L_distance 10 = .ok (.goto 11, 3) := by decide +kernel
theorem d_L_distance_13 : decode b_L_distance 13 = .ok (.astore 4, 2) := by decide +kernel
theorem d_L_distance_15 : decode b_L_distance 15 = .ok (.iconst 1, 1) := by decide +kernel
theorem d_L_distance_16 : decode b_L_distance 16 = .ok (.ireturn, 1) := by decide +kernel
theorem d_L_distance_17 : decode b_L_distance 17 = .ok (.astore 4, 2) := by decide +kernel
theorem d_L_distance_19 : decode b_L_distance 19 = .ok (.iconst 2, 1) := by decide +kernel
theorem d_L_distance_20 : decode b_L_distance 20 = .ok (.ireturn, 1) := by decide +kernel
theorem d_L_distance_21 : decode b_L_distance 21 = .ok (.iconst 0, 1) := by decide +kernel
theorem d_L_distance_22 : decode b_L_distance 22 = .ok (.ireturn, 1) := by decide +kernel
theorem d_L_times_0 : decode b_L_times 0 = .ok (.aload_n 3, 1) := by decide +kernel
theorem d_L_times_1 : decode b_L_times 1 = .ok (.iconst 0, 1) := by decide +kernel
theorem d_L_times_2 : decode b_L_times 2 = .ok (.aload_n 0, 1) := by decide +kernel
theorem d_L_times_3 : decode b_L_times 3 = .ok (.iload_n 1, 1) := by decide +kernel
theorem d_L_times_4 : decode b_L_times 4 = .ok (.iload_n 2, 1) := by decide +kernel
theorem d_L_times_5 : decode b_L_times 5 = .ok (.invokevirtual 40, 3) := by decide +kernel
theorem d_L_times_8 : decode b_L_times 8 = .ok (.i2l, 1) := by decide +kernel
theorem d_L_times_9 : decode b_L_times 9 = .ok (.lastore, 1) := by decide +kernel
theorem d_L_times_10 : decode b_L_times 10 = .ok (.goto 7, 3) := by decide +kernel
theorem d_L_times_13 : decode b_L_times 13 = .ok (.astore 4, 2) := by decide +kernel
theorem d_L_times_15 : decode b_L_times 15 = .ok (.iconst 1, 1) := by decide +kernel
theorem d_L_times_16 : decode b_L_times 16 = .ok (.ireturn, 1) := by decide +kernel
theorem d_L_times_17 : decode b_L_times 17 = .ok (.iconst 0, 1) := by decide +kernel
theorem d_L_times_18 : decode b_L_times 18 = .ok (.ireturn, 1) := by decide +kernel
theorem d_L_law_0 : decode b_L_law 0 = .ok (.new 8, 3) := by decide +kernel
theorem d_L_law_3 : decode b_L_law 3 = .ok (.dup, 1) := by decide +kernel
theorem d_L_law_4 : decode b_L_law 4 = .ok (.invokespecial 43, 3) := by decide +kernel
theorem d_L_law_7 : decode b_L_law 7 = .ok (.astore_n 1, 1) := by decide +kernel
theorem d_L_law_8 : decode b_L_law 8 = .ok (.new 44, 3) := by decide +kernel
theorem d_L_law_11 : decode b_L_law 11 = .ok (.dup, 1) := by decide +kernel
theorem d_L_law_12 : decode b_L_law 12 = .ok (.invokespecial 46, 3) := by decide +kernel
theorem d_L_law_15 : decode b_L_law 15 = .ok (.astore_n 2, 1) := by decide +kernel
theorem d_L_law_16 : decode b_L_law 16 = .ok (.iconst 1, 1) := by decide +kernel
theorem d_L_law_17 : decode b_L_law 17 = .ok (.newarray .long, 2) := by decide +kernel
theorem d_L_law_19 : decode b_L_law 19 = .ok (.astore_n 3, 1) := by decide +kernel
theorem d_L_law_20 : decode b_L_law 20 = .ok (.iconst 0, 1) := by decide +kernel
theorem d_L_law_21 : decode b_L_law 21 = .ok (.istore 4, 2) := by decide +kernel
theorem d_L_law_23 : decode b_L_law 23 = .ok (.iload 4, 2) := by decide +kernel
theorem d_L_law_25 : decode b_L_law 25 = .ok (.aload_n 0, 1) := by decide +kernel
theorem d_L_law_26 : decode b_L_law 26 = .ok (.arraylength, 1) := by decide +kernel
theorem d_L_law_27 : decode b_L_law 27 = .ok (.iconst 4, 1) := by decide +kernel
theorem d_L_law_28 : decode b_L_law 28 = .ok (.isub, 1) := by decide +kernel
theorem d_L_law_29 : decode b_L_law 29 = .ok (.if_icmp .gt 566, 3) := by decide +kernel
theorem d_L_law_32 : decode b_L_law 32 = .ok (.aload_n 0, 1) := by decide +kernel
theorem d_L_law_33 : decode b_L_law 33 = .ok (.iload 4, 2) := by decide +kernel
theorem d_L_law_35 : decode b_L_law 35 = .ok (.iaload, 1) := by decide +kernel
theorem d_L_law_36 : decode b_L_law 36 = .ok (.bipush 15, 2) := by decide +kernel
theorem d_L_law_38 : decode b_L_law 38 = .ok (.iand, 1) := by decide +kernel
theorem d_L_law_39 : decode b_L_law 39 = .ok (.tableswitch 550 0 8 #[49, 145, 158, 202, 277, 333, 389, 457, 525], 49) := by decide +kernel
theorem d_L_law_88 : decode b_L_law 88 = .ok (.aload_n 1, 1) := by decide +kernel
theorem d_L_law_89 : decode b_L_law 89 = .ok (.aload_n 0, 1) := by decide +kernel
theorem d_L_law_90 : decode b_L_law 90 = .ok (.iload 4, 2) := by decide +kernel
theorem d_L_law_92 : decode b_L_law 92 = .ok (.iconst 1, 1) := by decide +kernel
theorem d_L_law_93 : decode b_L_law 93 = .ok (.iadd, 1) := by decide +kernel
theorem d_L_law_94 : decode b_L_law 94 = .ok (.iaload, 1) := by decide +kernel
theorem d_L_law_95 : decode b_L_law 95 = .ok (.aload_n 0, 1) := by decide +kernel
theorem d_L_law_96 : decode b_L_law 96 = .ok (.iload 4, 2) := by decide +kernel
theorem d_L_law_98 : decode b_L_law 98 = .ok (.iconst 2, 1) := by decide +kernel
theorem d_L_law_99 : decode b_L_law 99 = .ok (.iadd, 1) := by decide +kernel
theorem d_L_law_100 : decode b_L_law 100 = .ok (.iaload, 1) := by decide +kernel
theorem d_L_law_101 : decode b_L_law 101 = .ok (.aload_n 0, 1) := by decide +kernel
theorem d_L_law_102 : decode b_L_law 102 = .ok (.iload 4, 2) := by decide +kernel
theorem d_L_law_104 : decode b_L_law 104 = .ok (.iconst 3, 1) := by decide +kernel
theorem d_L_law_105 : decode b_L_law 105 = .ok (.iadd, 1) := by decide +kernel
theorem d_L_law_106 : decode b_L_law 106 = .ok (.iaload, 1) := by decide +kernel
theorem d_L_law_107 : decode b_L_law 107 = .ok (.ifCond .eq 7, 3) := by decide +kernel
theorem d_L_law_110 : decode b_L_law 110 = .ok (.iconst 1, 1) := by decide +kernel
theorem d_L_law_111 : decode b_L_law 111 = .ok (.goto 4, 3) := by decide +kernel
theorem d_L_law_114 : decode b_L_law 114 = .ok (.iconst 0, 1) := by decide +kernel
theorem d_L_law_115 : decode b_L_law 115 = .ok (.aload_n 3, 1) := by decide +kernel
theorem d_L_law_116 : decode b_L_law 116 = .ok (.invokestatic 47, 3) := by decide +kernel
theorem d_L_law_119 : decode b_L_law 119 = .ok (.istore 5, 2) := by decide +kernel
theorem d_L_law_121 : decode b_L_law 121 = .ok (.aload_n 2, 1) := by decide +kernel
theorem d_L_law_122 : decode b_L_law 122 = .ok (.aload_n 0, 1) := by decide +kernel
theorem d_L_law_123 : decode b_L_law 123 = .ok (.iload 4, 2) := by decide +kernel
theorem d_L_law_125 : decode b_L_law 125 = .ok (.iconst 1, 1) := by decide +kernel
theorem d_L_law_126 : decode b_L_law 126 = .ok (.iadd, 1) := by decide +kernel
theorem d_L_law_127 : decode b_L_law 127 = .ok (.iaload, 1) := by decide +kernel
theorem d_L_law_128 : decode b_L_law 128 = .ok (.aload_n 0, 1) := by decide +kernel
theorem d_L_law_129 : decode b_L_law 129 = .ok (.iload 4, 2) := by decide +kernel
theorem d_L_law_131 : decode b_L_law 131 = .ok (.iconst 2, 1) := by decide +kernel
theorem d_L_law_132 : decode b_L_law 132 = .ok (.iadd, 1) := by decide +kernel
theorem d_L_law_133 : decode b_L_law 133 = .ok (.iaload, 1) := by decide +kernel
theorem d_L_law_134 : decode b_L_law 134 = .ok (.aload_n 0, 1) := by decide +kernel
theorem d_L_law_135 : decode b_L_law 135 = .ok (.iload 4, 2) := by decide +kernel
theorem d_L_law_137 : decode b_L_law 137 = .ok (.iconst 3, 1) := by decide +kernel
theorem d_L_law_138 : decode b_L_law 138 = .ok (.iadd, 1) := by decide +kernel
theorem d_L_law_139 : decode b_L_law 139 = .ok (.iaload, 1) := by decide +kernel
theorem d_L_law_140 : decode b_L_law 140 = .ok (.ifCond .eq 7, 3) := by decide +kernel
theorem d_L_law_143 : decode b_L_law 143 = .ok (.iconst 1, 1) := by decide +kernel
theorem d_L_law_144 : decode b_L_law 144 = .ok (.goto 4, 3) := by decide +kernel
theorem d_L_law_147 : decode b_L_law 147 = .ok (.iconst 0, 1) := by decide +kernel
theorem d_L_law_148 : decode b_L_law 148 = .ok (.invokevirtual 52, 3) := by decide +kernel
theorem d_L_law_151 : decode b_L_law 151 = .ok (.istore 6, 2) := by decide +kernel
theorem d_L_law_153 : decode b_L_law 153 = .ok (.aload_n 2, 1) := by decide +kernel
theorem d_L_law_154 : decode b_L_law 154 = .ok (.invokevirtual 53, 3) := by decide +kernel
theorem d_L_law_157 : decode b_L_law 157 = .ok (.iload 5, 2) := by decide +kernel
theorem d_L_law_159 : decode b_L_law 159 = .ok (.if_icmp .eq 5, 3) := by decide +kernel
theorem d_L_law_162 : decode b_L_law 162 = .ok (.iconst 0, 1) := by decide +kernel
theorem d_L_law_163 : decode b_L_law 163 = .ok (.ireturn, 1) := by decide +kernel
theorem d_L_law_164 : decode b_L_law 164 = .ok (.iload 5, 2) := by decide +kernel
theorem d_L_law_166 : decode b_L_law 166 = .ok (.ifCond .ne 15, 3) := by decide +kernel
theorem d_L_law_169 : decode b_L_law 169 = .ok (.aload_n 3, 1) := by decide +kernel
theorem d_L_law_170 : decode b_L_law 170 = .ok (.iconst 0, 1) := by decide +kernel
theorem d_L_law_171 : decode b_L_law 171 = .ok (.laload, 1) := by decide +kernel
theorem d_L_law_172 : decode b_L_law 172 = .ok (.iload 6, 2) := by decide +kernel
theorem d_L_law_174 : decode b_L_law 174 = .ok (.i2l, 1) := by decide +kernel
theorem d_L_law_175 : decode b_L_law 175 = .ok (.lcmp, 1) := by decide +kernel
theorem d_L_law_176 : decode b_L_law 176 = .ok (.ifCond .eq 5, 3) := by decide +kernel
theorem d_L_law_179 : decode b_L_law 179 = .ok (.iconst 0, 1) := by decide +kernel
theorem d_L_law_180 : decode b_L_law 180 = .ok (.ireturn, 1) := by decide +kernel
theorem d_L_law_181 : decode b_L_law 181 = .ok (.goto 408, 3) := by decide +kernel
theorem d_L_law_184 : decode b_L_law 184 = .ok (.aload_n 1, 1) := by decide +kernel
theorem d_L_law_185 : decode b_L_law 185 = .ok (.invokevirtual 56, 3) := by decide +kernel
theorem d_L_law_188 : decode b_L_law 188 = .ok (.aload_n 2, 1) := by decide +kernel
theorem d_L_law_189 : decode b_L_law 189 = .ok (.invokevirtual 59, 3) := by decide +kernel
theorem d_L_law_192 : decode b_L_law 192 = .ok (.if_icmp .eq 397, 3) := by decide +kernel
theorem d_L_law_195 : decode b_L_law 195 = .ok (.iconst 0, 1) := by decide +kernel
theorem d_L_law_196 : decode b_L_law 196 = .ok (.ireturn, 1) := by decide +kernel
theorem d_L_law_197 : decode b_L_law 197 = .ok (.aload_n 1, 1) := by decide +kernel
theorem d_L_law_198 : decode b_L_law 198 = .ok (.aload_n 3, 1) := by decide +kernel
theorem d_L_law_199 : decode b_L_law 199 = .ok (.invokestatic 60, 3) := by decide +kernel
theorem d_L_law_202 : decode b_L_law 202 = .ok (.istore 5, 2) := by decide +kernel
theorem d_L_law_204 : decode b_L_law 204 = .ok (.aload_n 2, 1) := by decide +kernel
theorem d_L_law_205 : decode b_L_law 205 = .ok (.invokevirtual 63, 3) := by decide +kernel
theorem d_L_law_208 : decode b_L_law 208 = .ok (.istore 6, 2) := by decide +kernel
theorem d_L_law_210 : decode b_L_law 210 = .ok (.aload_n 2, 1) := by decide +kernel
theorem d_L_law_211 : decode b_L_law 211 = .ok (.invokevirtual 53, 3) := by decide +kernel
theorem d_L_law_214 : decode b_L_law 214 = .ok (.iload 5, 2) := by decide +kernel
theorem d_L_law_216 : decode b_L_law 216 = .ok (.if_icmp .eq 5, 3) := by decide +kernel
theorem d_L_law_219 : decode b_L_law 219 = .ok (.iconst 0, 1) := by decide +kernel
theorem d_L_law_220 : decode b_L_law 220 = .ok (.ireturn, 1) := by decide +kernel
theorem d_L_law_221 : decode b_L_law 221 = .ok (.iload 5, 2) := by decide +kernel
theorem d_L_law_223 : decode b_L_law 223 = .ok (.ifCond .ne 15, 3) := by decide +kernel
theorem d_L_law_226 : decode b_L_law 226 = .ok (.aload_n 3, 1) := by decide +kernel
theorem d_L_law_227 : decode b_L_law 227 = .ok (.iconst 0, 1) := by decide +kernel
theorem d_L_law_228 : decode b_L_law 228 = .ok (.laload, 1) := by decide +kernel
theorem d_L_law_229 : decode b_L_law 229 = .ok (.iload 6, 2) := by decide +kernel
theorem d_L_law_231 : decode b_L_law 231 = .ok (.i2l, 1) := by decide +kernel
theorem d_L_law_232 : decode b_L_law 232 = .ok (.lcmp, 1) := by decide +kernel
theorem d_L_law_233 : decode b_L_law 233 = .ok (.ifCond .eq 5, 3) := by decide +kernel
theorem d_L_law_236 : decode b_L_law 236 = .ok (.iconst 0, 1) := by decide +kernel
theorem d_L_law_237 : decode b_L_law 237 = .ok (.ireturn, 1) := by decide +kernel
theorem d_L_law_238 : decode b_L_law 238 = .ok (.goto 351, 3) := by decide +kernel
theorem d_L_law_241 : decode b_L_law 241 = .ok (.aload_n 1, 1) := by decide +kernel
theorem d_L_law_242 : decode b_L_law 242 = .ok (.aload_n 0, 1) := by decide +kernel
theorem d_L_law_243 : decode b_L_law 243 = .ok (.iload 4, 2) := by decide +kernel
theorem d_L_law_245 : decode b_L_law 245 = .ok (.iconst 1, 1) := by decide +kernel
theorem d_L_law_246 : decode b_L_law 246 = .ok (.iadd, 1) := by decide +kernel
theorem d_L_law_247 : decode b_L_law 247 = .ok (.iaload, 1) := by decide +kernel
theorem d_L_law_248 : decode b_L_law 248 = .ok (.aload_n 0, 1) := by decide +kernel
theorem d_L_law_249 : decode b_L_law 249 = .ok (.iload 4, 2) := by decide +kernel
theorem d_L_law_251 : decode b_L_law 251 = .ok (.iconst 2, 1) := by decide +kernel
theorem d_L_law_252 : decode b_L_law 252 = .ok (.iadd, 1) := by decide +kernel
theorem d_L_law_253 : decode b_L_law 253 = .ok (.iaload, 1) := by decide +kernel
theorem d_L_law_254 : decode b_L_law 254 = .ok (.aload_n 3, 1) := by decide +kernel
theorem d_L_law_255 : decode b_L_law 255 = .ok (.invokestatic 64, 3) := by decide +kernel
theorem d_L_law_258 : decode b_L_law 258 = .ok (.istore 5, 2) := by decide +kernel
theorem d_L_law_260 : decode b_L_law 260 = .ok (.aload_n 2, 1) := by decide +kernel
theorem d_L_law_261 : decode b_L_law 261 = .ok (.aload_n 0, 1) := by decide +kernel
theorem d_L_law_262 : decode b_L_law 262 = .ok (.iload 4, 2) := by decide +kernel
theorem d_L_law_264 : decode b_L_law 264 = .ok (.iconst 1, 1) := by decide +kernel
theorem d_L_law_265 : decode b_L_law 265 = .ok (.iadd, 1) := by decide +kernel
theorem d_L_law_266 : decode b_L_law 266 = .ok (.iaload, 1) := by decide +kernel
theorem d_L_law_267 : decode b_L_law 267 = .ok (.aload_n 0, 1) := by decide +kernel
theorem d_L_law_268 : decode b_L_law 268 = .ok (.iload 4, 2) := by decide +kernel
theorem d_L_law_270 : decode b_L_law 270 = .ok (.iconst 2, 1) := by decide +kernel
theorem d_L_law_271 : decode b_L_law 271 = .ok (.iadd, 1) := by decide +kernel
theorem d_L_law_272 : decode b_L_law 272 = .ok (.iaload, 1) := by decide +kernel
theorem d_L_law_273 : decode b_L_law 273 = .ok (.invokevirtual 67, 3) := by decide +kernel
theorem d_L_law_276 : decode b_L_law 276 = .ok (.istore 6, 2) := by decide +kernel
theorem d_L_law_278 : decode b_L_law 278 = .ok (.aload_n 2, 1) := by decide +kernel
theorem d_L_law_279 : decode b_L_law 279 = .ok (.invokevirtual 53, 3) := by decide +kernel
theorem d_L_law_282 : decode b_L_law 282 = .ok (.iload 5, 2) := by decide +kernel
theorem d_L_law_284 : decode b_L_law 284 = .ok (.if_icmp .eq 5, 3) := by decide +kernel
theorem d_L_law_287 : decode b_L_law 287 = .ok (.iconst 0, 1) := by decide +kernel
theorem d_L_law_288 : decode b_L_law 288 = .ok (.ireturn, 1) := by decide +kernel
theorem d_L_law_289 : decode b_L_law 289 = .ok (.iload 5, 2) := by decide +kernel
theorem d_L_law_291 : decode b_L_law 291 = .ok (.ifCond .ne 22, 3) := by decide +kernel
theorem d_L_law_294 : decode b_L_law 294 = .ok (.aload_n 3, 1) := by decide +kernel
theorem d_L_law_295 : decode b_L_law 295 = .ok (.iconst 0, 1) := by decide +kernel
theorem d_L_law_296 : decode b_L_law 296 = .ok (.laload, 1) := by decide +kernel
theorem d_L_law_297 : decode b_L_law 297 = .ok (.iload 6, 2) := by decide +kernel
theorem d_L_law_299 : decode b_L_law 299 = .ok (.ifCond .eq 7, 3) := by decide +kernel
theorem d_L_law_302 : decode b_L_law 302 = .ok (.lconst 1, 1) := by decide +kernel
theorem d_L_law_303 : decode b_L_law 303 = .ok (.goto 4, 3) := by decide +kernel
theorem d_L_law_306 : decode b_L_law 306 = .ok (.lconst 0, 1) := by decide +kernel
theorem d_L_law_307 : decode b_L_law 307 = .ok (.lcmp, 1) := by decide +kernel
theorem d_L_law_308 : decode b_L_law 308 = .ok (.ifCond .eq 5, 3) := by decide +kernel
theorem d_L_law_311 : decode b_L_law 311 = .ok (.iconst 0, 1) := by decide +kernel
theorem d_L_law_312 : decode b_L_law 312 = .ok (.ireturn, 1) := by decide +kernel
theorem d_L_law_313 : decode b_L_law 313 = .ok (.goto 276, 3) := by decide +kernel
theorem d_L_law_316 : decode b_L_law 316 = .ok (.aload_n 1, 1) := by decide +kernel
theorem d_L_law_317 : decode b_L_law 317 = .ok (.aload_n 0, 1) := by decide +kernel
theorem d_L_law_318 : decode b_L_law 318 = .ok (.iload 4, 2) := by decide +kernel
theorem d_L_law_320 : decode b_L_law 320 = .ok (.iconst 1, 1) := by decide +kernel
theorem d_L_law_321 : decode b_L_law 321 = .ok (.iadd, 1) := by decide +kernel
theorem d_L_law_322 : decode b_L_law 322 = .ok (.iaload, 1) := by decide +kernel
theorem d_L_law_323 : decode b_L_law 323 = .ok (.aload_n 3, 1) := by decide +kernel
theorem d_L_law_324 : decode b_L_law 324 = .ok (.invokestatic 68, 3) := by decide +kernel
theorem d_L_law_327 : decode b_L_law 327 = .ok (.istore 5, 2) := by decide +kernel
theorem d_L_law_329 : decode b_L_law 329 = .ok (.aload_n 2, 1) := by decide +kernel
theorem d_L_law_330 : decode b_L_law 330 = .ok (.aload_n 0, 1) := by decide +kernel
theorem d_L_law_331 : decode b_L_law 331 = .ok (.iload 4, 2) := by decide +kernel
theorem d_L_law_333 : decode b_L_law 333 = .ok (.iconst 1, 1) := by decide +kernel
theorem d_L_law_334 : decode b_L_law 334 = .ok (.iadd, 1) := by decide +kernel
theorem d_L_law_335 : decode b_L_law 335 = .ok (.iaload, 1) := by decide +kernel
theorem d_L_law_336 : decode b_L_law 336 = .ok (.invokevirtual 71, 3) := by decide +kernel
theorem d_L_law_339 : decode b_L_law 339 = .ok (.istore 6, 2) := by decide +kernel
theorem d_L_law_341 : decode b_L_law 341 = .ok (.aload_n 2, 1) := by decide +kernel
theorem d_L_law_342 : decode b_L_law 342 = .ok (.invokevirtual 53, 3) := by decide +kernel
theorem d_L_law_345 : decode b_L_law 345 = .ok (.iload 5, 2) := by decide +kernel
theorem d_L_law_347 : decode b_L_law 347 = .ok (.if_icmp .eq 5, 3) := by decide +kernel
theorem d_L_law_350 : decode b_L_law 350 = .ok (.iconst 0, 1) := by decide +kernel
theorem d_L_law_351 : decode b_L_law 351 = .ok (.ireturn, 1) := by decide +kernel
theorem d_L_law_352 : decode b_L_law 352 = .ok (.iload 5, 2) := by decide +kernel
theorem d_L_law_354 : decode b_L_law 354 = .ok (.ifCond .ne 15, 3) := by decide +kernel
theorem d_L_law_357 : decode b_L_law 357 = .ok (.aload_n 3, 1) := by decide +kernel
theorem d_L_law_358 : decode b_L_law 358 = .ok (.iconst 0, 1) := by decide +kernel
theorem d_L_law_359 : decode b_L_law 359 = .ok (.laload, 1) := by decide +kernel
theorem d_L_law_360 : decode b_L_law 360 = .ok (.iload 6, 2) := by decide +kernel
theorem d_L_law_362 : decode b_L_law 362 = .ok (.i2l, 1) := by decide +kernel
theorem d_L_law_363 : decode b_L_law 363 = .ok (.lcmp, 1) := by decide +kernel
theorem d_L_law_364 : decode b_L_law 364 = .ok (.ifCond .eq 5, 3) := by decide +kernel
theorem d_L_law_367 : decode b_L_law 367 = .ok (.iconst 0, 1) := by decide +kernel
theorem d_L_law_368 : decode b_L_law 368 = .ok (.ireturn, 1) := by decide +kernel
theorem d_L_law_369 : decode b_L_law 369 = .ok (.goto 220, 3) := by decide +kernel
theorem d_L_law_372 : decode b_L_law 372 = .ok (.aload_n 1, 1) := by decide +kernel
theorem d_L_law_373 : decode b_L_law 373 = .ok (.aload_n 0, 1) := by decide +kernel
theorem d_L_law_374 : decode b_L_law 374 = .ok (.iload 4, 2) := by decide +kernel
theorem d_L_law_376 : decode b_L_law 376 = .ok (.iconst 1, 1) := by decide +kernel
theorem d_L_law_377 : decode b_L_law 377 = .ok (.iadd, 1) := by decide +kernel
theorem d_L_law_378 : decode b_L_law 378 = .ok (.iaload, 1) := by decide +kernel
theorem d_L_law_379 : decode b_L_law 379 = .ok (.aload_n 3, 1) := by decide +kernel
theorem d_L_law_380 : decode b_L_law 380 = .ok (.invokestatic 72, 3) := by decide +kernel
theorem d_L_law_383 : decode b_L_law 383 = .ok (.istore 5, 2) := by decide +kernel
theorem d_L_law_385 : decode b_L_law 385 = .ok (.aload_n 2, 1) := by decide +kernel
theorem d_L_law_386 : decode b_L_law 386 = .ok (.aload_n 0, 1) := by decide +kernel
theorem d_L_law_387 : decode b_L_law 387 = .ok (.iload 4, 2) := by decide +kernel
theorem d_L_law_389 : decode b_L_law 389 = .ok (.iconst 1, 1) := by decide +kernel
theorem d_L_law_390 : decode b_L_law 390 = .ok (.iadd, 1) := by decide +kernel
theorem d_L_law_391 : decode b_L_law 391 = .ok (.iaload, 1) := by decide +kernel
theorem d_L_law_392 : decode b_L_law 392 = .ok (.invokevirtual 74, 3) := by decide +kernel
theorem d_L_law_395 : decode b_L_law 395 = .ok (.istore 6, 2) := by decide +kernel
theorem d_L_law_397 : decode b_L_law 397 = .ok (.aload_n 2, 1) := by decide +kernel
theorem d_L_law_398 : decode b_L_law 398 = .ok (.invokevirtual 53, 3) := by decide +kernel
theorem d_L_law_401 : decode b_L_law 401 = .ok (.iload 5, 2) := by decide +kernel
theorem d_L_law_403 : decode b_L_law 403 = .ok (.if_icmp .eq 5, 3) := by decide +kernel
theorem d_L_law_406 : decode b_L_law 406 = .ok (.iconst 0, 1) := by decide +kernel
theorem d_L_law_407 : decode b_L_law 407 = .ok (.ireturn, 1) := by decide +kernel
theorem d_L_law_408 : decode b_L_law 408 = .ok (.iload 5, 2) := by decide +kernel
theorem d_L_law_410 : decode b_L_law 410 = .ok (.ifCond .ne 15, 3) := by decide +kernel
theorem d_L_law_413 : decode b_L_law 413 = .ok (.aload_n 3, 1) := by decide +kernel
theorem d_L_law_414 : decode b_L_law 414 = .ok (.iconst 0, 1) := by decide +kernel
theorem d_L_law_415 : decode b_L_law 415 = .ok (.laload, 1) := by decide +kernel
theorem d_L_law_416 : decode b_L_law 416 = .ok (.iload 6, 2) := by decide +kernel
theorem d_L_law_418 : decode b_L_law 418 = .ok (.i2l, 1) := by decide +kernel
theorem d_L_law_419 : decode b_L_law 419 = .ok (.lcmp, 1) := by decide +kernel
theorem d_L_law_420 : decode b_L_law 420 = .ok (.ifCond .eq 5, 3) := by decide +kernel
theorem d_L_law_423 : decode b_L_law 423 = .ok (.iconst 0, 1) := by decide +kernel
theorem d_L_law_424 : decode b_L_law 424 = .ok (.ireturn, 1) := by decide +kernel
theorem d_L_law_425 : decode b_L_law 425 = .ok (.goto 164, 3) := by decide +kernel
theorem d_L_law_428 : decode b_L_law 428 = .ok (.aload_n 1, 1) := by decide +kernel
theorem d_L_law_429 : decode b_L_law 429 = .ok (.aload_n 0, 1) := by decide +kernel
theorem d_L_law_430 : decode b_L_law 430 = .ok (.iload 4, 2) := by decide +kernel
theorem d_L_law_432 : decode b_L_law 432 = .ok (.iconst 1, 1) := by decide +kernel
theorem d_L_law_433 : decode b_L_law 433 = .ok (.iadd, 1) := by decide +kernel
theorem d_L_law_434 : decode b_L_law 434 = .ok (.iaload, 1) := by decide +kernel
theorem d_L_law_435 : decode b_L_law 435 = .ok (.aload_n 0, 1) := by decide +kernel
theorem d_L_law_436 : decode b_L_law 436 = .ok (.iload 4, 2) := by decide +kernel
theorem d_L_law_438 : decode b_L_law 438 = .ok (.iconst 2, 1) := by decide +kernel
theorem d_L_law_439 : decode b_L_law 439 = .ok (.iadd, 1) := by decide +kernel
theorem d_L_law_440 : decode b_L_law 440 = .ok (.iaload, 1) := by decide +kernel
theorem d_L_law_441 : decode b_L_law 441 = .ok (.aload_n 3, 1) := by decide +kernel
theorem d_L_law_442 : decode b_L_law 442 = .ok (.invokestatic 75, 3) := by decide +kernel
theorem d_L_law_445 : decode b_L_law 445 = .ok (.istore 5, 2) := by decide +kernel
theorem d_L_law_447 : decode b_L_law 447 = .ok (.aload_n 2, 1) := by decide +kernel
theorem d_L_law_448 : decode b_L_law 448 = .ok (.aload_n 0, 1) := by decide +kernel
theorem d_L_law_449 : decode b_L_law 449 = .ok (.iload 4, 2) := by decide +kernel
theorem d_L_law_451 : decode b_L_law 451 = .ok (.iconst 1, 1) := by decide +kernel
theorem d_L_law_452 : decode b_L_law 452 = .ok (.iadd, 1) := by decide +kernel
theorem d_L_law_453 : decode b_L_law 453 = .ok (.iaload, 1) := by decide +kernel
theorem d_L_law_454 : decode b_L_law 454 = .ok (.aload_n 0, 1) := by decide +kernel
theorem d_L_law_455 : decode b_L_law 455 = .ok (.iload 4, 2) := by decide +kernel
theorem d_L_law_457 : decode b_L_law 457 = .ok (.iconst 2, 1) := by decide +kernel
theorem d_L_law_458 : decode b_L_law 458 = .ok (.iadd, 1) := by decide +kernel
theorem d_L_law_459 : decode b_L_law 459 = .ok (.iaload, 1) := by decide +kernel
theorem d_L_law_460 : decode b_L_law 460 = .ok (.invokevirtual 77, 3) := by decide +kernel
theorem d_L_law_463 : decode b_L_law 463 = .ok (.istore 6, 2) := by decide +kernel
theorem d_L_law_465 : decode b_L_law 465 = .ok (.aload_n 2, 1) := by decide +kernel
theorem d_L_law_466 : decode b_L_law 466 = .ok (.invokevirtual 53, 3) := by decide +kernel
theorem d_L_law_469 : decode b_L_law 469 = .ok (.iload 5, 2) := by decide +kernel
theorem d_L_law_471 : decode b_L_law 471 = .ok (.if_icmp .eq 5, 3) := by decide +kernel
theorem d_L_law_474 : decode b_L_law 474 = .ok (.iconst 0, 1) := by decide +kernel
theorem d_L_law_475 : decode b_L_law 475 = .ok (.ireturn, 1) := by decide +kernel
theorem d_L_law_476 : decode b_L_law 476 = .ok (.iload 5, 2) := by decide +kernel
theorem d_L_law_478 : decode b_L_law 478 = .ok (.ifCond .ne 15, 3) := by decide +kernel
theorem d_L_law_481 : decode b_L_law 481 = .ok (.aload_n 3, 1) := by decide +kernel
theorem d_L_law_482 : decode b_L_law 482 = .ok (.iconst 0, 1) := by decide +kernel
theorem d_L_law_483 : decode b_L_law 483 = .ok (.laload, 1) := by decide +kernel
theorem d_L_law_484 : decode b_L_law 484 = .ok (.iload 6, 2) := by decide +kernel
theorem d_L_law_486 : decode b_L_law 486 = .ok (.i2l, 1) := by decide +kernel
theorem d_L_law_487 : decode b_L_law 487 = .ok (.lcmp, 1) := by decide +kernel
theorem d_L_law_488 : decode b_L_law 488 = .ok (.ifCond .eq 5, 3) := by decide +kernel
theorem d_L_law_491 : decode b_L_law 491 = .ok (.iconst 0, 1) := by decide +kernel
theorem d_L_law_492 : decode b_L_law 492 = .ok (.ireturn, 1) := by decide +kernel
theorem d_L_law_493 : decode b_L_law 493 = .ok (.goto 96, 3) := by decide +kernel
theorem d_L_law_496 : decode b_L_law 496 = .ok (.aload_n 1, 1) := by decide +kernel
theorem d_L_law_497 : decode b_L_law 497 = .ok (.aload_n 0, 1) := by decide +kernel
theorem d_L_law_498 : decode b_L_law 498 = .ok (.iload 4, 2) := by decide +kernel
theorem d_L_law_500 : decode b_L_law 500 = .ok (.iconst 1, 1) := by decide +kernel
theorem d_L_law_501 : decode b_L_law 501 = .ok (.iadd, 1) := by decide +kernel
theorem d_L_law_502 : decode b_L_law 502 = .ok (.iaload, 1) := by decide +kernel
theorem d_L_law_503 : decode b_L_law 503 = .ok (.aload_n 0, 1) := by decide +kernel
theorem d_L_law_504 : decode b_L_law 504 = .ok (.iload 4, 2) := by decide +kernel
theorem d_L_law_506 : decode b_L_law 506 = .ok (.iconst 2, 1) := by decide +kernel
theorem d_L_law_507 : decode b_L_law 507 = .ok (.iadd, 1) := by decide +kernel
theorem d_L_law_508 : decode b_L_law 508 = .ok (.iaload, 1) := by decide +kernel
theorem d_L_law_509 : decode b_L_law 509 = .ok (.aload_n 3, 1) := by decide +kernel
theorem d_L_law_510 : decode b_L_law 510 = .ok (.invokestatic 78, 3) := by decide +kernel
theorem d_L_law_513 : decode b_L_law 513 = .ok (.istore 5, 2) := by decide +kernel
theorem d_L_law_515 : decode b_L_law 515 = .ok (.aload_n 2, 1) := by decide +kernel
theorem d_L_law_516 : decode b_L_law 516 = .ok (.aload_n 0, 1) := by decide +kernel
theorem d_L_law_517 : decode b_L_law 517 = .ok (.iload 4, 2) := by decide +kernel
theorem d_L_law_519 : decode b_L_law 519 = .ok (.iconst 1, 1) := by decide +kernel
theorem d_L_law_520 : decode b_L_law 520 = .ok (.iadd, 1) := by decide +kernel
theorem d_L_law_521 : decode b_L_law 521 = .ok (.iaload, 1) := by decide +kernel
theorem d_L_law_522 : decode b_L_law 522 = .ok (.aload_n 0, 1) := by decide +kernel
theorem d_L_law_523 : decode b_L_law 523 = .ok (.iload 4, 2) := by decide +kernel
theorem d_L_law_525 : decode b_L_law 525 = .ok (.iconst 2, 1) := by decide +kernel
theorem d_L_law_526 : decode b_L_law 526 = .ok (.iadd, 1) := by decide +kernel
theorem d_L_law_527 : decode b_L_law 527 = .ok (.iaload, 1) := by decide +kernel
theorem d_L_law_528 : decode b_L_law 528 = .ok (.invokevirtual 80, 3) := by decide +kernel
theorem d_L_law_531 : decode b_L_law 531 = .ok (.istore 6, 2) := by decide +kernel
theorem d_L_law_533 : decode b_L_law 533 = .ok (.aload_n 2, 1) := by decide +kernel
theorem d_L_law_534 : decode b_L_law 534 = .ok (.invokevirtual 53, 3) := by decide +kernel
theorem d_L_law_537 : decode b_L_law 537 = .ok (.iload 5, 2) := by decide +kernel
theorem d_L_law_539 : decode b_L_law 539 = .ok (.if_icmp .eq 5, 3) := by decide +kernel
theorem d_L_law_542 : decode b_L_law 542 = .ok (.iconst 0, 1) := by decide +kernel
theorem d_L_law_543 : decode b_L_law 543 = .ok (.ireturn, 1) := by decide +kernel
theorem d_L_law_544 : decode b_L_law 544 = .ok (.iload 5, 2) := by decide +kernel
theorem d_L_law_546 : decode b_L_law 546 = .ok (.ifCond .ne 15, 3) := by decide +kernel
theorem d_L_law_549 : decode b_L_law 549 = .ok (.aload_n 3, 1) := by decide +kernel
theorem d_L_law_550 : decode b_L_law 550 = .ok (.iconst 0, 1) := by decide +kernel
theorem d_L_law_551 : decode b_L_law 551 = .ok (.laload, 1) := by decide +kernel
theorem d_L_law_552 : decode b_L_law 552 = .ok (.iload 6, 2) := by decide +kernel
theorem d_L_law_554 : decode b_L_law 554 = .ok (.i2l, 1) := by decide +kernel
theorem d_L_law_555 : decode b_L_law 555 = .ok (.lcmp, 1) := by decide +kernel
theorem d_L_law_556 : decode b_L_law 556 = .ok (.ifCond .eq 5, 3) := by decide +kernel
theorem d_L_law_559 : decode b_L_law 559 = .ok (.iconst 0, 1) := by decide +kernel
theorem d_L_law_560 : decode b_L_law 560 = .ok (.ireturn, 1) := by decide +kernel
theorem d_L_law_561 : decode b_L_law 561 = .ok (.goto 28, 3) := by decide +kernel
theorem d_L_law_564 : decode b_L_law 564 = .ok (.aload_n 1, 1) := by decide +kernel
theorem d_L_law_565 : decode b_L_law 565 = .ok (.aload_n 0, 1) := by decide +kernel
theorem d_L_law_566 : decode b_L_law 566 = .ok (.iload 4, 2) := by decide +kernel
theorem d_L_law_568 : decode b_L_law 568 = .ok (.iconst 1, 1) := by decide +kernel
theorem d_L_law_569 : decode b_L_law 569 = .ok (.iadd, 1) := by decide +kernel
theorem d_L_law_570 : decode b_L_law 570 = .ok (.iaload, 1) := by decide +kernel
theorem d_L_law_571 : decode b_L_law 571 = .ok (.invokevirtual 81, 3) := by decide +kernel
theorem d_L_law_574 : decode b_L_law 574 = .ok (.aload_n 2, 1) := by decide +kernel
theorem d_L_law_575 : decode b_L_law 575 = .ok (.aload_n 0, 1) := by decide +kernel
theorem d_L_law_576 : decode b_L_law 576 = .ok (.iload 4, 2) := by decide +kernel
theorem d_L_law_578 : decode b_L_law 578 = .ok (.iconst 1, 1) := by decide +kernel
theorem d_L_law_579 : decode b_L_law 579 = .ok (.iadd, 1) := by decide +kernel
theorem d_L_law_580 : decode b_L_law 580 = .ok (.iaload, 1) := by decide +kernel
theorem d_L_law_581 : decode b_L_law 581 = .ok (.invokevirtual 84, 3) := by decide +kernel
theorem d_L_law_584 : decode b_L_law 584 = .ok (.if_icmp .eq 5, 3) := by decide +kernel
theorem d_L_law_587 : decode b_L_law 587 = .ok (.iconst 0, 1) := by decide +kernel
theorem d_L_law_588 : decode b_L_law 588 = .ok (.ireturn, 1) := by decide +kernel
theorem d_L_law_589 : decode b_L_law 589 = .ok (.iinc 4 4, 3) := by decide +kernel
theorem d_L_law_592 : decode b_L_law 592 = .ok (.goto (-569), 3) := by decide +kernel
theorem d_L_law_595 : decode b_L_law 595 = .ok (.iconst 1, 1) := by decide +kernel
theorem d_L_law_596 : decode b_L_law 596 = .ok (.ireturn, 1) := by decide +kernel
