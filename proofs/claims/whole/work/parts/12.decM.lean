theorem d_M_init_0 : decode b_M_init 0 = .ok (.aload_n 0, 1) := by decide +kernel
theorem d_M_init_1 : decode b_M_init 1 = .ok (.invokespecial 1, 3) := by decide +kernel
theorem d_M_init_4 : decode b_M_init 4 = .ok (.aload_n 0, 1) := by decide +kernel
theorem d_M_init_5 : decode b_M_init 5 = .ok (.sipush 1024, 3) := by decide +kernel
theorem d_M_init_8 : decode b_M_init 8 = .ok (.newarray .int, 2) := by decide +kernel
theorem d_M_init_10 : decode b_M_init 10 = .ok (.putfield 9, 3) := by decide +kernel
theorem d_M_init_13 : decode b_M_init 13 = .ok (.aload_n 0, 1) := by decide +kernel
theorem d_M_init_14 : decode b_M_init 14 = .ok (.sipush 1024, 3) := by decide +kernel
theorem d_M_init_17 : decode b_M_init 17 = .ok (.newarray .int, 2) := by decide +kernel
theorem d_M_init_19 : decode b_M_init 19 = .ok (.putfield 13, 3) := by decide +kernel
theorem d_M_init_22 : decode b_M_init 22 = .ok (.aload_n 0, 1) := by decide +kernel
theorem d_M_init_23 : decode b_M_init 23 = .ok (.bipush 60, 2) := by decide +kernel
theorem d_M_init_25 : decode b_M_init 25 = .ok (.newarray .int, 2) := by decide +kernel
theorem d_M_init_27 : decode b_M_init 27 = .ok (.putfield 16, 3) := by decide +kernel
theorem d_M_init_30 : decode b_M_init 30 = .ok (.aload_n 0, 1) := by decide +kernel
theorem d_M_init_31 : decode b_M_init 31 = .ok (.bipush 60, 2) := by decide +kernel
theorem d_M_init_33 : decode b_M_init 33 = .ok (.newarray .int, 2) := by decide +kernel
theorem d_M_init_35 : decode b_M_init 35 = .ok (.putfield 19, 3) := by decide +kernel
theorem d_M_init_38 : decode b_M_init 38 = .ok (.aload_n 0, 1) := by decide +kernel
theorem d_M_init_39 : decode b_M_init 39 = .ok (.bipush 32, 2) := by decide +kernel
theorem d_M_init_41 : decode b_M_init 41 = .ok (.newarray .int, 2) := by decide +kernel
theorem d_M_init_43 : decode b_M_init 43 = .ok (.putfield 22, 3) := by decide +kernel
theorem d_M_init_46 : decode b_M_init 46 = .ok (.aload_n 0, 1) := by decide +kernel
theorem d_M_init_47 : decode b_M_init 47 = .ok (.sipush 1024, 3) := by decide +kernel
theorem d_M_init_50 : decode b_M_init 50 = .ok (.newarray .boolean, 2) := by decide +kernel
theorem d_M_init_52 : decode b_M_init 52 = .ok (.putfield 25, 3) := by decide +kernel
theorem d_M_init_55 : decode b_M_init 55 = .ok (.aload_n 0, 1) := by decide +kernel
theorem d_M_init_56 : decode b_M_init 56 = .ok (.sipush 1024, 3) := by decide +kernel
theorem d_M_init_59 : decode b_M_init 59 = .ok (.newarray .boolean, 2) := by decide +kernel
theorem d_M_init_61 : decode b_M_init 61 = .ok (.putfield 29, 3) := by decide +kernel
theorem d_M_init_64 : decode b_M_init 64 = .ok (.return_, 1) := by decide +kernel
theorem d_M_thrown_0 : decode b_M_thrown 0 = .ok (.aload_n 0, 1) := by decide +kernel
theorem d_M_thrown_1 : decode b_M_thrown 1 = .ok (.getfield 32, 3) := by decide +kernel
theorem d_M_thrown_4 : decode b_M_thrown 4 = .ok (.ireturn, 1) := by decide +kernel
theorem d_M_isVertex_0 : decode b_M_isVertex 0 = .ok (.iload_n 0, 1) := by decide +kernel
theorem d_M_isVertex_1 : decode b_M_isVertex 1 = .ok (.ifCond .lt 13, 3) := by decide +kernel
theorem d_M_isVertex_4 : decode b_M_isVertex 4 = .ok (.iload_n 0, 1) := by decide +kernel
theorem d_M_isVertex_5 : decode b_M_isVertex 5 = .ok (.bipush 32, 2) := by decide +kernel
theorem d_M_isVertex_7 : decode b_M_isVertex 7 = .ok (.if_icmp .ge 7, 3) := by decide +kernel
theorem d_M_isVertex_10 : decode b_M_isVertex 10 = .ok (.iconst 1, 1) := by decide +kernel
theorem d_M_isVertex_11 : decode b_M_isVertex 11 = .ok (.goto 4, 3) := by decide +kernel
theorem d_M_isVertex_14 : decode b_M_isVertex 14 = .ok (.iconst 0, 1) := by decide +kernel
theorem d_M_isVertex_15 : decode b_M_isVertex 15 = .ok (.ireturn, 1) := by decide +kernel
theorem d_M_change_0 : decode b_M_change 0 = .ok (.aload_n 0, 1) := by decide +kernel
theorem d_M_change_1 : decode b_M_change 1 = .ok (.iload_n 1, 1) := by decide +kernel
theorem d_M_change_2 : decode b_M_change 2 = .ok (.invokestatic 36, 3) := by decide +kernel
theorem d_M_change_5 : decode b_M_change 5 = .ok (.ifCond .eq 10, 3) := by decide +kernel
theorem d_M_change_8 : decode b_M_change 8 = .ok (.iload_n 2, 1) := by decide +kernel
theorem d_M_change_9 : decode b_M_change 9 = .ok (.invokestatic 36, 3) := by decide +kernel
theorem d_M_change_12 : decode b_M_change 12 = .ok (.ifCond .ne 7, 3) := by decide +kernel
theorem d_M_change_15 : decode b_M_change 15 = .ok (.iconst 1, 1) := by decide +kernel
theorem d_M_change_16 : decode b_M_change 16 = .ok (.goto 17, 3) := by decide +kernel
theorem d_M_change_19 : decode b_M_change 19 = .ok (.aload_n 0, 1) := by decide +kernel
theorem d_M_change_20 : decode b_M_change 20 = .ok (.getfield 40, 3) := by decide +kernel
theorem d_M_change_23 : decode b_M_change 23 = .ok (.bipush 60, 2) := by decide +kernel
theorem d_M_change_25 : decode b_M_change 25 = .ok (.if_icmp .ne 7, 3) := by decide +kernel
theorem d_M_change_28 : decode b_M_change 28 = .ok (.iconst 2, 1) := by decide +kernel
theorem d_M_change_29 : decode b_M_change 29 = .ok (.goto 4, 3) := by decide +kernel
theorem d_M_change_32 : decode b_M_change 32 = .ok (.iconst 0, 1) := by decide +kernel
theorem d_M_change_33 : decode b_M_change 33 = .ok (.putfield 32, 3) := by decide +kernel
theorem d_M_change_36 : decode b_M_change 36 = .ok (.aload_n 0, 1) := by decide +kernel
theorem d_M_change_37 : decode b_M_change 37 = .ok (.getfield 32, 3) := by decide +kernel
theorem d_M_change_40 : decode b_M_change 40 = .ok (.ifCond .le 5, 3) := by decide +kernel
theorem d_M_change_43 : decode b_M_change 43 = .ok (.iconst 0, 1) := by decide +kernel
theorem d_M_change_44 : decode b_M_change 44 = .ok (.ireturn, 1) := by decide +kernel
theorem d_M_change_45 : decode b_M_change 45 = .ok (.aload_n 0, 1) := by decide +kernel
theorem d_M_change_46 : decode b_M_change 46 = .ok (.getfield 16, 3) := by decide +kernel
theorem d_M_change_49 : decode b_M_change 49 = .ok (.aload_n 0, 1) := by decide +kernel
theorem d_M_change_50 : decode b_M_change 50 = .ok (.getfield 40, 3) := by decide +kernel
theorem d_M_change_53 : decode b_M_change 53 = .ok (.bipush 32, 2) := by decide +kernel
theorem d_M_change_55 : decode b_M_change 55 = .ok (.iload_n 1, 1) := by decide +kernel
theorem d_M_change_56 : decode b_M_change 56 = .ok (.imul, 1) := by decide +kernel
theorem d_M_change_57 : decode b_M_change 57 = .ok (.iload_n 2, 1) := by decide +kernel
theorem d_M_change_58 : decode b_M_change 58 = .ok (.iadd, 1) := by decide +kernel
theorem d_M_change_59 : decode b_M_change 59 = .ok (.iastore, 1) := by decide +kernel
theorem d_M_change_60 : decode b_M_change 60 = .ok (.aload_n 0, 1) := by decide +kernel
theorem d_M_change_61 : decode b_M_change 61 = .ok (.getfield 19, 3) := by decide +kernel
theorem d_M_change_64 : decode b_M_change 64 = .ok (.aload_n 0, 1) := by decide +kernel
theorem d_M_change_65 : decode b_M_change 65 = .ok (.getfield 40, 3) := by decide +kernel
theorem d_M_change_68 : decode b_M_change 68 = .ok (.iload_n 3, 1) := by decide +kernel
theorem d_M_change_69 : decode b_M_change 69 = .ok (.ifCond .eq 7, 3) := by decide +kernel
theorem d_M_change_72 : decode b_M_change 72 = .ok (.iconst 1, 1) := by decide +kernel
theorem d_M_change_73 : decode b_M_change 73 = .ok (.goto 4, 3) := by decide +kernel
theorem d_M_change_76 : decode b_M_change 76 = .ok (.iconst (-1), 1) := by decide +kernel
theorem d_M_change_77 : decode b_M_change 77 = .ok (.iastore, 1) := by decide +kernel
theorem d_M_change_78 : decode b_M_change 78 = .ok (.aload_n 0, 1) := by decide +kernel
theorem d_M_change_79 : decode b_M_change 79 = .ok (.dup, 1) := by decide +kernel
theorem d_M_change_80 : decode b_M_change 80 = .ok (.getfield 40, 3) := by decide +kernel
theorem d_M_change_83 : decode b_M_change 83 = .ok (.iconst 1, 1) := by decide +kernel
theorem d_M_change_84 : decode b_M_change 84 = .ok (.iadd, 1) := by decide +kernel
theorem d_M_change_85 : decode b_M_change 85 = .ok (.putfield 40, 3) := by decide +kernel
theorem d_M_change_88 : decode b_M_change 88 = .ok (.aload_n 0, 1) := by decide +kernel
theorem d_M_change_89 : decode b_M_change 89 = .ok (.getfield 40, 3) := by decide +kernel
theorem d_M_change_92 : decode b_M_change 92 = .ok (.ireturn, 1) := by decide +kernel
theorem d_M_forget_0 : decode b_M_forget 0 = .ok (.aload_n 0, 1) := by decide +kernel
theorem d_M_forget_1 : decode b_M_forget 1 = .ok (.iconst 0, 1) := by decide +kernel
theorem d_M_forget_2 : decode b_M_forget 2 = .ok (.putfield 32, 3) := by decide +kernel
theorem d_M_forget_5 : decode b_M_forget 5 = .ok (.aload_n 0, 1) := by decide +kernel
theorem d_M_forget_6 : decode b_M_forget 6 = .ok (.getfield 40, 3) := by decide +kernel
theorem d_M_forget_9 : decode b_M_forget 9 = .ok (.istore_n 1, 1) := by decide +kernel
theorem d_M_forget_10 : decode b_M_forget 10 = .ok (.aload_n 0, 1) := by decide +kernel
theorem d_M_forget_11 : decode b_M_forget 11 = .ok (.iconst 0, 1) := by decide +kernel
theorem d_M_forget_12 : decode b_M_forget 12 = .ok (.putfield 40, 3) := by decide +kernel
theorem d_M_forget_15 : decode b_M_forget 15 = .ok (.iload_n 1, 1) := by decide +kernel
theorem d_M_forget_16 : decode b_M_forget 16 = .ok (.ireturn, 1) := by decide +kernel
theorem d_M_apply_0 : decode b_M_apply 0 = .ok (.iconst 0, 1) := by decide +kernel
theorem d_M_apply_1 : decode b_M_apply 1 = .ok (.istore_n 1, 1) := by decide +kernel
theorem d_M_apply_2 : decode b_M_apply 2 = .ok (.iload_n 1, 1) := by decide +kernel
theorem d_M_apply_3 : decode b_M_apply 3 = .ok (.sipush 1024, 3) := by decide +kernel
theorem d_M_apply_6 : decode b_M_apply 6 = .ok (.if_icmp .ge 21, 3) := by decide +kernel
theorem d_M_apply_9 : decode b_M_apply 9 = .ok (.aload_n 0, 1) := by decide +kernel
theorem d_M_apply_10 : decode b_M_apply 10 = .ok (.getfield 13, 3) := by decide +kernel
theorem d_M_apply_13 : decode b_M_apply 13 = .ok (.iload_n 1, 1) := by decide +kernel
theorem d_M_apply_14 : decode b_M_apply 14 = .ok (.aload_n 0, 1) := by decide +kernel
theorem d_M_apply_15 : decode b_M_apply 15 = .ok (.getfield 9, 3) := by decide +kernel
theorem d_M_apply_18 : decode b_M_apply 18 = .ok (.iload_n 1, 1) := by decide +kernel
theorem d_M_apply_19 : decode b_M_apply 19 = .ok (.iaload, 1) := by decide +kernel
theorem d_M_apply_20 : decode b_M_apply 20 = .ok (.iastore, 1) := by decide +kernel
theorem d_M_apply_21 : decode b_M_apply 21 = .ok (.iinc 1 1, 3) := by decide +kernel
theorem d_M_apply_24 : decode b_M_apply 24 = .ok (.goto (-22), 3) := by decide +kernel
theorem d_M_apply_27 : decode b_M_apply 27 = .ok (.iconst 0, 1) := by decide +kernel
theorem d_M_apply_28 : decode b_M_apply 28 = .ok (.istore_n 1, 1) := by decide +kernel
theorem d_M_apply_29 : decode b_M_apply 29 = .ok (.iload_n 1, 1) := by decide +kernel
theorem d_M_apply_30 : decode b_M_apply 30 = .ok (.aload_n 0, 1) := by decide +kernel
theorem d_M_apply_31 : decode b_M_apply 31 = .ok (.getfield 40, 3) := by decide +kernel
theorem d_M_apply_34 : decode b_M_apply 34 = .ok (.if_icmp .ge 29, 3) := by decide +kernel
theorem d_M_apply_37 : decode b_M_apply 37 = .ok (.aload_n 0, 1) := by decide +kernel
theorem d_M_apply_38 : decode b_M_apply 38 = .ok (.getfield 13, 3) := by decide +kernel
theorem d_M_apply_41 : decode b_M_apply 41 = .ok (.aload_n 0, 1) := by decide +kernel
theorem d_M_apply_42 : decode b_M_apply 42 = .ok (.getfield 16, 3) := by decide +kernel
theorem d_M_apply_45 : decode b_M_apply 45 = .ok (.iload_n 1, 1) := by decide +kernel
theorem d_M_apply_46 : decode b_M_apply 46 = .ok (.iaload, 1) := by decide +kernel
theorem d_M_apply_47 : decode b_M_apply 47 = .ok (.dup2, 1) := by decide +kernel
theorem d_M_apply_48 : decode b_M_apply 48 = .ok (.iaload, 1) := by decide +kernel
theorem d_M_apply_49 : decode b_M_apply 49 = .ok (.aload_n 0, 1) := by decide +kernel
theorem d_M_apply_50 : decode b_M_apply 50 = .ok (.getfield 19, 3) := by decide +kernel
theorem d_M_apply_53 : decode b_M_apply 53 = .ok (.iload_n 1, 1) := by decide +kernel
theorem d_M_apply_54 : decode b_M_apply 54 = .ok (.iaload, 1) := by decide +kernel
theorem d_M_apply_55 : decode b_M_apply 55 = .ok (.iadd, 1) := by decide +kernel
theorem d_M_apply_56 : decode b_M_apply 56 = .ok (.iastore, 1) := by decide +kernel
theorem d_M_apply_57 : decode b_M_apply 57 = .ok (.iinc 1 1, 3) := by decide +kernel
theorem d_M_apply_60 : decode b_M_apply 60 = .ok (.goto (-31), 3) := by decide +kernel
theorem d_M_apply_63 : decode b_M_apply 63 = .ok (.aload_n 0, 1) := by decide +kernel
theorem d_M_apply_64 : decode b_M_apply 64 = .ok (.iconst 0, 1) := by decide +kernel
theorem d_M_apply_65 : decode b_M_apply 65 = .ok (.putfield 32, 3) := by decide +kernel
theorem d_M_apply_68 : decode b_M_apply 68 = .ok (.iconst 0, 1) := by decide +kernel
theorem d_M_apply_69 : decode b_M_apply 69 = .ok (.istore_n 1, 1) := by decide +kernel
theorem d_M_apply_70 : decode b_M_apply 70 = .ok (.iload_n 1, 1) := by decide +kernel
theorem d_M_apply_71 : decode b_M_apply 71 = .ok (.sipush 1024, 3) := by decide +kernel
theorem d_M_apply_74 : decode b_M_apply 74 = .ok (.if_icmp .ge 23, 3) := by decide +kernel
theorem d_M_apply_77 : decode b_M_apply 77 = .ok (.aload_n 0, 1) := by decide +kernel
theorem d_M_apply_78 : decode b_M_apply 78 = .ok (.getfield 13, 3) := by decide +kernel
theorem d_M_apply_81 : decode b_M_apply 81 = .ok (.iload_n 1, 1) := by decide +kernel
theorem d_M_apply_82 : decode b_M_apply 82 = .ok (.iaload, 1) := by decide +kernel
theorem d_M_apply_83 : decode b_M_apply 83 = .ok (.ifCond .ge 8, 3) := by decide +kernel
theorem d_M_apply_86 : decode b_M_apply 86 = .ok (.aload_n 0, 1) := by decide +kernel
theorem d_M_apply_87 : decode b_M_apply 87 = .ok (.iconst 1, 1) := by decide +kernel
theorem d_M_apply_88 : decode b_M_apply 88 = .ok (.putfield 32, 3) := by decide +kernel
theorem d_M_apply_91 : decode b_M_apply 91 = .ok (.iinc 1 1, 3) := by decide +kernel
theorem d_M_apply_94 : decode b_M_apply 94 = .ok (.goto (-24), 3) := by decide +kernel
theorem d_M_apply_97 : decode b_M_apply 97 = .ok (.aload_n 0, 1) := by decide +kernel
theorem d_M_apply_98 : decode b_M_apply 98 = .ok (.getfield 32, 3) := by decide +kernel
theorem d_M_apply_101 : decode b_M_apply 101 = .ok (.ifCond .le 5, 3) := by decide +kernel
theorem d_M_apply_104 : decode b_M_apply 104 = .ok (.iconst 0, 1) := by decide +kernel
theorem d_M_apply_105 : decode b_M_apply 105 = .ok (.ireturn, 1) := by decide +kernel
theorem d_M_apply_106 : decode b_M_apply 106 = .ok (.aload_n 0, 1) := by decide +kernel
theorem d_M_apply_107 : decode b_M_apply 107 = .ok (.iconst 0, 1) := by decide +kernel
theorem d_M_apply_108 : decode b_M_apply 108 = .ok (.putfield 40, 3) := by decide +kernel
theorem d_M_apply_111 : decode b_M_apply 111 = .ok (.iconst 0, 1) := by decide +kernel
theorem d_M_apply_112 : decode b_M_apply 112 = .ok (.istore_n 1, 1) := by decide +kernel
theorem d_M_apply_113 : decode b_M_apply 113 = .ok (.iload_n 1, 1) := by decide +kernel
theorem d_M_apply_114 : decode b_M_apply 114 = .ok (.sipush 1024, 3) := by decide +kernel
theorem d_M_apply_117 : decode b_M_apply 117 = .ok (.if_icmp .ge 53, 3) := by decide +kernel
theorem d_M_apply_120 : decode b_M_apply 120 = .ok (.aload_n 0, 1) := by decide +kernel
theorem d_M_apply_121 : decode b_M_apply 121 = .ok (.getfield 9, 3) := by decide +kernel
theorem d_M_apply_124 : decode b_M_apply 124 = .ok (.iload_n 1, 1) := by decide +kernel
theorem d_M_apply_125 : decode b_M_apply 125 = .ok (.aload_n 0, 1) := by decide +kernel
theorem d_M_apply_126 : decode b_M_apply 126 = .ok (.getfield 13, 3) := by decide +kernel
theorem d_M_apply_129 : decode b_M_apply 129 = .ok (.iload_n 1, 1) := by decide +kernel
theorem d_M_apply_130 : decode b_M_apply 130 = .ok (.iaload, 1) := by decide +kernel
theorem d_M_apply_131 : decode b_M_apply 131 = .ok (.iastore, 1) := by decide +kernel
theorem d_M_apply_132 : decode b_M_apply 132 = .ok (.aload_n 0, 1) := by decide +kernel
theorem d_M_apply_133 : decode b_M_apply 133 = .ok (.getfield 29, 3) := by decide +kernel
theorem d_M_apply_136 : decode b_M_apply 136 = .ok (.iload_n 1, 1) := by decide +kernel
theorem d_M_apply_137 : decode b_M_apply 137 = .ok (.aload_n 0, 1) := by decide +kernel
theorem d_M_apply_138 : decode b_M_apply 138 = .ok (.getfield 25, 3) := by decide +kernel
theorem d_M_apply_141 : decode b_M_apply 141 = .ok (.iload_n 1, 1) := by decide +kernel
theorem d_M_apply_142 : decode b_M_apply 142 = .ok (.baload, 1) := by decide +kernel
theorem d_M_apply_143 : decode b_M_apply 143 = .ok (.bastore, 1) := by decide +kernel
theorem d_M_apply_144 : decode b_M_apply 144 = .ok (.aload_n 0, 1) := by decide +kernel
theorem d_M_apply_145 : decode b_M_apply 145 = .ok (.getfield 25, 3) := by decide +kernel
theorem d_M_apply_148 : decode b_M_apply 148 = .ok (.iload_n 1, 1) := by decide +kernel
theorem d_M_apply_149 : decode b_M_apply 149 = .ok (.aload_n 0, 1) := by decide +kernel
theorem d_M_apply_150 : decode b_M_apply 150 = .ok (.getfield 9, 3) := by decide +kernel
theorem d_M_apply_153 : decode b_M_apply 153 = .ok (.iload_n 1, 1) := by decide +kernel
theorem d_M_apply_154 : decode b_M_apply 154 = .ok (.iaload, 1) := by decide +kernel
theorem d_M_apply_155 : decode b_M_apply 155 = .ok (.ifCond .le 7, 3) := by decide +kernel
theorem d_M_apply_158 : decode b_M_apply 158 = .ok (.iconst 1, 1) := by decide +kernel
theorem d_M_apply_159 : decode b_M_apply 159 = .ok (.goto 4, 3) := by decide +kernel
theorem d_M_apply_162 : decode b_M_apply 162 = .ok (.iconst 0, 1) := by decide +kernel
theorem d_M_apply_163 : decode b_M_apply 163 = .ok (.bastore, 1) := by decide +kernel
theorem d_M_apply_164 : decode b_M_apply 164 = .ok (.iinc 1 1, 3) := by decide +kernel
theorem d_M_apply_167 : decode b_M_apply 167 = .ok (.goto (-54), 3) := by decide +kernel
theorem d_M_apply_170 : decode b_M_apply 170 = .ok (.iconst 0, 1) := by decide +kernel
theorem d_M_apply_171 : decode b_M_apply 171 = .ok (.istore_n 1, 1) := by decide +kernel
theorem d_M_apply_172 : decode b_M_apply 172 = .ok (.iload_n 1, 1) := by decide +kernel
theorem d_M_apply_173 : decode b_M_apply 173 = .ok (.bipush 32, 2) := by decide +kernel
theorem d_M_apply_175 : decode b_M_apply 175 = .ok (.if_icmp .ge 80, 3) := by decide +kernel
theorem d_M_apply_178 : decode b_M_apply 178 = .ok (.iconst 0, 1) := by decide +kernel
theorem d_M_apply_179 : decode b_M_apply 179 = .ok (.istore_n 2, 1) := by decide +kernel
theorem d_M_apply_180 : decode b_M_apply 180 = .ok (.iload_n 2, 1) := by decide +kernel
theorem d_M_apply_181 : decode b_M_apply 181 = .ok (.bipush 32, 2) := by decide +kernel
theorem d_M_apply_183 : decode b_M_apply 183 = .ok (.if_icmp .ge 66, 3) := by decide +kernel
theorem d_M_apply_186 : decode b_M_apply 186 = .ok (.aload_n 0, 1) := by decide +kernel
theorem d_M_apply_187 : decode b_M_apply 187 = .ok (.getfield 25, 3) := by decide +kernel
theorem d_M_apply_190 : decode b_M_apply 190 = .ok (.bipush 32, 2) := by decide +kernel
theorem d_M_apply_192 : decode b_M_apply 192 = .ok (.iload_n 2, 1) := by decide +kernel
theorem d_M_apply_193 : decode b_M_apply 193 = .ok (.imul, 1) := by decide +kernel
theorem d_M_apply_194 : decode b_M_apply 194 = .ok (.iload_n 1, 1) := by decide +kernel
theorem d_M_apply_195 : decode b_M_apply 195 = .ok (.iadd, 1) := by decide +kernel
theorem d_M_apply_196 : decode b_M_apply 196 = .ok (.baload, 1) := by decide +kernel
theorem d_M_apply_197 : decode b_M_apply 197 = .ok (.ifCond .ne 6, 3) := by decide +kernel
theorem d_M_apply_200 : decode b_M_apply 200 = .ok (.goto 43, 3) := by decide +kernel
theorem d_M_apply_203 : decode b_M_apply 203 = .ok (.iconst 0, 1) := by decide +kernel
theorem d_M_apply_204 : decode b_M_apply 204 = .ok (.istore_n 3, 1) := by decide +kernel
theorem d_M_apply_205 : decode b_M_apply 205 = .ok (.iload_n 3, 1) := by decide +kernel
theorem d_M_apply_206 : decode b_M_apply 206 = .ok (.bipush 32, 2) := by decide +kernel
theorem d_M_apply_208 : decode b_M_apply 208 = .ok (.if_icmp .ge 35, 3) := by decide +kernel
theorem d_M_apply_211 : decode b_M_apply 211 = .ok (.aload_n 0, 1) := by decide +kernel
theorem d_M_apply_212 : decode b_M_apply 212 = .ok (.getfield 25, 3) := by decide +kernel
theorem d_M_apply_215 : decode b_M_apply 215 = .ok (.bipush 32, 2) := by decide +kernel
theorem d_M_apply_217 : decode b_M_apply 217 = .ok (.iload_n 1, 1) := by decide +kernel
theorem d_M_apply_218 : decode b_M_apply 218 = .ok (.imul, 1) := by decide +kernel
theorem d_M_apply_219 : decode b_M_apply 219 = .ok (.iload_n 3, 1) := by decide +kernel
theorem d_M_apply_220 : decode b_M_apply 220 = .ok (.iadd, 1) := by decide +kernel
theorem d_M_apply_221 : decode b_M_apply 221 = .ok (.baload, 1) := by decide +kernel
theorem d_M_apply_222 : decode b_M_apply 222 = .ok (.ifCond .eq 15, 3) := by decide +kernel
theorem d_M_apply_225 : decode b_M_apply 225 = .ok (.aload_n 0, 1) := by decide +kernel
theorem d_M_apply_226 : decode b_M_apply 226 = .ok (.getfield 25, 3) := by decide +kernel
theorem d_M_apply_229 : decode b_M_apply 229 = .ok (.bipush 32, 2) := by decide +kernel
theorem d_M_apply_231 : decode b_M_apply 231 = .ok (.iload_n 2, 1) := by decide +kernel
theorem d_M_apply_232 : decode b_M_apply 232 = .ok (.imul, 1) := by decide +kernel
theorem d_M_apply_233 : decode b_M_apply 233 = .ok (.iload_n 3, 1) := by decide +kernel
theorem d_M_apply_234 : decode b_M_apply 234 = .ok (.iadd, 1) := by decide +kernel
theorem d_M_apply_235 : decode b_M_apply 235 = .ok (.iconst 1, 1) := by decide +kernel
theorem d_M_apply_236 : decode b_M_apply 236 = .ok (.bastore, 1) := by decide +kernel
theorem d_M_apply_237 : decode b_M_apply 237 = .ok (.iinc 3 1, 3) := by decide +kernel
theorem d_M_apply_240 : decode b_M_apply 240 = .ok (.goto (-35), 3) := by decide +kernel
theorem d_M_apply_243 : decode b_M_apply 243 = .ok (.iinc 2 1, 3) := by decide +kernel
theorem d_M_apply_246 : decode b_M_apply 246 = .ok (.goto (-66), 3) := by decide +kernel
theorem d_M_apply_249 : decode b_M_apply 249 = .ok (.iinc 1 1, 3) := by decide +kernel
theorem d_M_apply_252 : decode b_M_apply 252 = .ok (.goto (-80), 3) := by decide +kernel
theorem d_M_apply_255 : decode b_M_apply 255 = .ok (.aload_n 0, 1) := by decide +kernel
theorem d_M_apply_256 : decode b_M_apply 256 = .ok (.iconst 1, 1) := by decide +kernel
theorem d_M_apply_257 : decode b_M_apply 257 = .ok (.invokevirtual 43, 3) := by decide +kernel
theorem d_M_apply_260 : decode b_M_apply 260 = .ok (.aload_n 0, 1) := by decide +kernel
theorem d_M_apply_261 : decode b_M_apply 261 = .ok (.iconst 0, 1) := by decide +kernel
theorem d_M_apply_262 : decode b_M_apply 262 = .ok (.invokevirtual 43, 3) := by decide +kernel
theorem d_M_apply_265 : decode b_M_apply 265 = .ok (.iadd, 1) := by decide +kernel
theorem d_M_apply_266 : decode b_M_apply 266 = .ok (.ireturn, 1) := by decide +kernel
theorem d_M_many_0 : decode b_M_many 0 = .ok (.iconst 0, 1) := by decide +kernel
theorem d_M_many_1 : decode b_M_many 1 = .ok (.istore_n 2, 1) := by decide +kernel
theorem d_M_many_2 : decode b_M_many 2 = .ok (.iconst 0, 1) := by decide +kernel
theorem d_M_many_3 : decode b_M_many 3 = .ok (.istore_n 3, 1) := by decide +kernel
theorem d_M_many_4 : decode b_M_many 4 = .ok (.iload_n 3, 1) := by decide +kernel
theorem d_M_many_5 : decode b_M_many 5 = .ok (.sipush 1024, 3) := by decide +kernel
theorem d_M_many_8 : decode b_M_many 8 = .ok (.if_icmp .ge 37, 3) := by decide +kernel
theorem d_M_many_11 : decode b_M_many 11 = .ok (.aload_n 0, 1) := by decide +kernel
theorem d_M_many_12 : decode b_M_many 12 = .ok (.getfield 25, 3) := by decide +kernel
theorem d_M_many_15 : decode b_M_many 15 = .ok (.iload_n 3, 1) := by decide +kernel
theorem d_M_many_16 : decode b_M_many 16 = .ok (.baload, 1) := by decide +kernel
theorem d_M_many_17 : decode b_M_many 17 = .ok (.aload_n 0, 1) := by decide +kernel
theorem d_M_many_18 : decode b_M_many 18 = .ok (.getfield 29, 3) := by decide +kernel
theorem d_M_many_21 : decode b_M_many 21 = .ok (.iload_n 3, 1) := by decide +kernel
theorem d_M_many_22 : decode b_M_many 22 = .ok (.baload, 1) := by decide +kernel
theorem d_M_many_23 : decode b_M_many 23 = .ok (.if_icmp .eq 16, 3) := by decide +kernel
theorem d_M_many_26 : decode b_M_many 26 = .ok (.aload_n 0, 1) := by decide +kernel
theorem d_M_many_27 : decode b_M_many 27 = .ok (.getfield 25, 3) := by decide +kernel
theorem d_M_many_30 : decode b_M_many 30 = .ok (.iload_n 3, 1) := by decide +kernel
theorem d_M_many_31 : decode b_M_many 31 = .ok (.baload, 1) := by decide +kernel
theorem d_M_many_32 : decode b_M_many 32 = .ok (.iload_n 1, 1) := by decide +kernel
theorem d_M_many_33 : decode b_M_many 33 = .ok (.if_icmp .ne 6, 3) := by decide +kernel
theorem d_M_many_36 : decode b_M_many 36 = .ok (.iinc 2 1, 3) := by decide +kernel
theorem d_M_many_39 : decode b_M_many 39 = .ok (.iinc 3 1, 3) := by decide +kernel
theorem d_M_many_42 : decode b_M_many 42 = .ok (.goto (-38), 3) := by decide +kernel
theorem d_M_many_45 : decode b_M_many 45 = .ok (.iload_n 2, 1) := by decide +kernel
theorem d_M_many_46 : decode b_M_many 46 = .ok (.ireturn, 1) := by decide +kernel
theorem d_M_holds_0 : decode b_M_holds 0 = .ok (.aload_n 0, 1) := by decide +kernel
theorem d_M_holds_1 : decode b_M_holds 1 = .ok (.iload_n 1, 1) := by decide +kernel
theorem d_M_holds_2 : decode b_M_holds 2 = .ok (.invokestatic 36, 3) := by decide +kernel
theorem d_M_holds_5 : decode b_M_holds 5 = .ok (.ifCond .eq 14, 3) := by decide +kernel
theorem d_M_holds_8 : decode b_M_holds 8 = .ok (.iload_n 2, 1) := by decide +kernel
theorem d_M_holds_9 : decode b_M_holds 9 = .ok (.invokestatic 36, 3) := by decide +kernel
theorem d_M_holds_12 : decode b_M_holds 12 = .ok (.ifCond .eq 7, 3) := by decide +kernel
theorem d_M_holds_15 : decode b_M_holds 15 = .ok (.iconst 0, 1) := by decide +kernel
theorem d_M_holds_16 : decode b_M_holds 16 = .ok (.goto 4, 3) := by decide +kernel
theorem d_M_holds_19 : decode b_M_holds 19 = .ok (.iconst 1, 1) := by decide +kernel
theorem d_M_holds_20 : decode b_M_holds 20 = .ok (.putfield 32, 3) := by decide +kernel
theorem d_M_holds_23 : decode b_M_holds 23 = .ok (.aload_n 0, 1) := by decide +kernel
theorem d_M_holds_24 : decode b_M_holds 24 = .ok (.getfield 32, 3) := by decide +kernel
theorem d_M_holds_27 : decode b_M_holds 27 = .ok (.ifCond .ne 21, 3) := by decide +kernel
theorem d_M_holds_30 : decode b_M_holds 30 = .ok (.aload_n 0, 1) := by decide +kernel
theorem d_M_holds_31 : decode b_M_holds 31 = .ok (.getfield 25, 3) := by decide +kernel
theorem d_M_holds_34 : decode b_M_holds 34 = .ok (.bipush 32, 2) := by decide +kernel
theorem d_M_holds_36 : decode b_M_holds 36 = .ok (.iload_n 1, 1) := by decide +kernel
theorem d_M_holds_37 : decode b_M_holds 37 = .ok (.imul, 1) := by decide +kernel
theorem d_M_holds_38 : decode b_M_holds 38 = .ok (.iload_n 2, 1) := by decide +kernel
theorem d_M_holds_39 : decode b_M_holds 39 = .ok (.iadd, 1) := by decide +kernel
theorem d_M_holds_40 : decode b_M_holds 40 = .ok (.baload, 1) := by decide +kernel
theorem d_M_holds_41 : decode b_M_holds 41 = .ok (.ifCond .eq 7, 3) := by decide +kernel
theorem d_M_holds_44 : decode b_M_holds 44 = .ok (.iconst 1, 1) := by decide +kernel
theorem d_M_holds_45 : decode b_M_holds 45 = .ok (.goto 4, 3) := by decide +kernel
theorem d_M_holds_48 : decode b_M_holds 48 = .ok (.iconst 0, 1) := by decide +kernel
theorem d_M_holds_49 : decode b_M_holds 49 = .ok (.ireturn, 1) := by decide +kernel
theorem d_M_other_0 : decode b_M_other 0 = .ok (.iconst (-1), 1) := by decide +kernel
theorem d_M_other_1 : decode b_M_other 1 = .ok (.istore_n 3, 1) := by decide +kernel
theorem d_M_other_2 : decode b_M_other 2 = .ok (.aload_n 0, 1) := by decide +kernel
theorem d_M_other_3 : decode b_M_other 3 = .ok (.iconst 0, 1) := by decide +kernel
theorem d_M_other_4 : decode b_M_other 4 = .ok (.putfield 32, 3) := by decide +kernel
theorem d_M_other_7 : decode b_M_other 7 = .ok (.iconst 0, 1) := by decide +kernel
theorem d_M_other_8 : decode b_M_other 8 = .ok (.istore 4, 2) := by decide +kernel
theorem d_M_other_10 : decode b_M_other 10 = .ok (.iload 4, 2) := by decide +kernel
theorem d_M_other_12 : decode b_M_other 12 = .ok (.sipush 1024, 3) := by decide +kernel
theorem d_M_other_15 : decode b_M_other 15 = .ok (.if_icmp .ge 51, 3) := by decide +kernel
theorem d_M_other_18 : decode b_M_other 18 = .ok (.aload_n 0, 1) := by decide +kernel
theorem d_M_other_19 : decode b_M_other 19 = .ok (.getfield 25, 3) := by decide +kernel
theorem d_M_other_22 : decode b_M_other 22 = .ok (.iload 4, 2) := by decide +kernel
theorem d_M_other_24 : decode b_M_other 24 = .ok (.baload, 1) := by decide +kernel
theorem d_M_other_25 : decode b_M_other 25 = .ok (.aload_n 0, 1) := by decide +kernel
theorem d_M_other_26 : decode b_M_other 26 = .ok (.getfield 29, 3) := by decide +kernel
theorem d_M_other_29 : decode b_M_other 29 = .ok (.iload 4, 2) := by decide +kernel
theorem d_M_other_31 : decode b_M_other 31 = .ok (.baload, 1) := by decide +kernel
theorem d_M_other_32 : decode b_M_other 32 = .ok (.if_icmp .eq 28, 3) := by decide +kernel
theorem d_M_other_35 : decode b_M_other 35 = .ok (.aload_n 0, 1) := by decide +kernel
theorem d_M_other_36 : decode b_M_other 36 = .ok (.getfield 25, 3) := by decide +kernel
theorem d_M_other_39 : decode b_M_other 39 = .ok (.iload 4, 2) := by decide +kernel
theorem d_M_other_41 : decode b_M_other 41 = .ok (.baload, 1) := by decide +kernel
theorem d_M_other_42 : decode b_M_other 42 = .ok (.iload_n 2, 1) := by decide +kernel
theorem d_M_other_43 : decode b_M_other 43 = .ok (.if_icmp .eq 6, 3) := by decide +kernel
theorem d_M_other_46 : decode b_M_other 46 = .ok (.goto 14, 3) := by decide +kernel
theorem d_M_other_49 : decode b_M_other 49 = .ok (.iinc 3 1, 3) := by decide +kernel
theorem d_M_other_52 : decode b_M_other 52 = .ok (.iload_n 3, 1) := by decide +kernel
theorem d_M_other_53 : decode b_M_other 53 = .ok (.iload_n 1, 1) := by decide +kernel
theorem d_M_other_54 : decode b_M_other 54 = .ok (.if_icmp .ne 6, 3) := by decide +kernel
theorem d_M_other_57 : decode b_M_other 57 = .ok (.iload 4, 2) := by decide +kernel
theorem d_M_other_59 : decode b_M_other 59 = .ok (.ireturn, 1) := by decide +kernel
theorem d_M_other_60 : decode b_M_other 60 = .ok (.iinc 4 1, 3) := by decide +kernel
theorem d_M_other_63 : decode b_M_other 63 = .ok (.goto (-53), 3) := by decide +kernel
theorem d_M_other_66 : decode b_M_other 66 = .ok (.aload_n 0, 1) := by decide +kernel
theorem d_M_other_67 : decode b_M_other 67 = .ok (.iconst 1, 1) := by decide +kernel
theorem d_M_other_68 : decode b_M_other 68 = .ok (.putfield 32, 3) := by decide +kernel
theorem d_M_other_71 : decode b_M_other 71 = .ok (.iconst 0, 1) := by decide +kernel
theorem d_M_other_72 : decode b_M_other 72 = .ok (.ireturn, 1) := by decide +kernel
theorem d_M_came_0 : decode b_M_came 0 = .ok (.aload_n 0, 1) := by decide +kernel
theorem d_M_came_1 : decode b_M_came 1 = .ok (.iload_n 1, 1) := by decide +kernel
theorem d_M_came_2 : decode b_M_came 2 = .ok (.iconst 1, 1) := by decide +kernel
theorem d_M_came_3 : decode b_M_came 3 = .ok (.invokevirtual 47, 3) := by decide +kernel
theorem d_M_came_6 : decode b_M_came 6 = .ok (.ireturn, 1) := by decide +kernel
theorem d_M_went_0 : decode b_M_went 0 = .ok (.aload_n 0, 1) := by decide +kernel
theorem d_M_went_1 : decode b_M_went 1 = .ok (.iload_n 1, 1) := by decide +kernel
theorem d_M_went_2 : decode b_M_went 2 = .ok (.iconst 0, 1) := by decide +kernel
theorem d_M_went_3 : decode b_M_went 3 = .ok (.invokevirtual 47, 3) := by decide +kernel
theorem d_M_went_6 : decode b_M_went 6 = .ok (.ireturn, 1) := by decide +kernel
theorem d_M_distance_0 : decode b_M_distance 0 = .ok (.aload_n 0, 1) := by decide +kernel
theorem d_M_distance_1 : decode b_M_distance 1 = .ok (.iload_n 1, 1) := by decide +kernel
theorem d_M_distance_2 : decode b_M_distance 2 = .ok (.invokestatic 36, 3) := by decide +kernel
theorem d_M_distance_5 : decode b_M_distance 5 = .ok (.ifCond .eq 10, 3) := by decide +kernel
theorem d_M_distance_8 : decode b_M_distance 8 = .ok (.iload_n 2, 1) := by decide +kernel
theorem d_M_distance_9 : decode b_M_distance 9 = .ok (.invokestatic 36, 3) := by decide +kernel
theorem d_M_distance_12 : decode b_M_distance 12 = .ok (.ifCond .ne 7, 3) := by decide +kernel
theorem d_M_distance_15 : decode b_M_distance 15 = .ok (.iconst 1, 1) := by decide +kernel
theorem d_M_distance_16 : decode b_M_distance 16 = .ok (.goto 22, 3) := by decide +kernel
theorem d_M_distance_19 : decode b_M_distance 19 = .ok (.aload_n 0, 1) := by decide +kernel
theorem d_M_distance_20 : decode b_M_distance 20 = .ok (.getfield 25, 3) := by decide +kernel
theorem d_M_distance_23 : decode b_M_distance 23 = .ok (.bipush 32, 2) := by decide +kernel
theorem d_M_distance_25 : decode b_M_distance 25 = .ok (.iload_n 1, 1) := by decide +kernel
theorem d_M_distance_26 : decode b_M_distance 26 = .ok (.imul, 1) := by decide +kernel
theorem d_M_distance_27 : decode b_M_distance 27 = .ok (.iload_n 2, 1) := by decide +kernel
theorem d_M_distance_28 : decode b_M_distance 28 = .ok (.iadd, 1) := by decide +kernel
theorem d_M_distance_29 : decode b_M_distance 29 = .ok (.baload, 1) := by decide +kernel
theorem d_M_distance_30 : decode b_M_distance 30 = .ok (.ifCond .ne 7, 3) := by decide +kernel
theorem d_M_distance_33 : decode b_M_distance 33 = .ok (.iconst 2, 1) := by decide +kernel
theorem d_M_distance_34 : decode b_M_distance 34 = .ok (.goto 4, 3) := by decide +kernel
theorem d_M_distance_37 : decode b_M_distance 37 = .ok (.iconst 0, 1) := by decide +kernel
theorem d_M_distance_38 : decode b_M_distance 38 = .ok (.putfield 32, 3) := by decide +kernel
theorem d_M_distance_41 : decode b_M_distance 41 = .ok (.aload_n 0, 1) := by decide +kernel
theorem d_M_distance_42 : decode b_M_distance 42 = .ok (.getfield 32, 3) := by decide +kernel
theorem d_M_distance_45 : decode b_M_distance 45 = .ok (.ifCond .le 5, 3) := by decide +kernel
theorem d_M_distance_48 : decode b_M_distance 48 = .ok (.iconst 0, 1) := by decide +kernel
theorem d_M_distance_49 : decode b_M_distance 49 = .ok (.ireturn, 1) := by decide +kernel
theorem d_M_distance_50 : decode b_M_distance 50 = .ok (.iconst 0, 1) := by decide +kernel
theorem d_M_distance_51 : decode b_M_distance 51 = .ok (.istore_n 3, 1) := by decide +kernel
theorem d_M_distance_52 : decode b_M_distance 52 = .ok (.iload_n 3, 1) := by decide +kernel
theorem d_M_distance_53 : decode b_M_distance 53 = .ok (.bipush 32, 2) := by decide +kernel
theorem d_M_distance_55 : decode b_M_distance 55 = .ok (.if_icmp .ge 34, 3) := by decide +kernel
theorem d_M_distance_58 : decode b_M_distance 58 = .ok (.aload_n 0, 1) := by decide +kernel
theorem d_M_distance_59 : decode b_M_distance 59 = .ok (.getfield 22, 3) := by decide +kernel
theorem d_M_distance_62 : decode b_M_distance 62 = .ok (.iload_n 3, 1) := by decide +kernel
theorem d_M_distance_63 : decode b_M_distance 63 = .ok (.aload_n 0, 1) := by decide +kernel
theorem d_M_distance_64 : decode b_M_distance 64 = .ok (.getfield 9, 3) := by decide +kernel
theorem d_M_distance_67 : decode b_M_distance 67 = .ok (.bipush 32, 2) := by decide +kernel
theorem d_M_distance_69 : decode b_M_distance 69 = .ok (.iload_n 1, 1) := by decide +kernel
theorem d_M_distance_70 : decode b_M_distance 70 = .ok (.imul, 1) := by decide +kernel
theorem d_M_distance_71 : decode b_M_distance 71 = .ok (.iload_n 3, 1) := by decide +kernel
theorem d_M_distance_72 : decode b_M_distance 72 = .ok (.iadd, 1) := by decide +kernel
theorem d_M_distance_73 : decode b_M_distance 73 = .ok (.iaload, 1) := by decide +kernel
theorem d_M_distance_74 : decode b_M_distance 74 = .ok (.ifCond .le 7, 3) := by decide +kernel
theorem d_M_distance_77 : decode b_M_distance 77 = .ok (.iconst 1, 1) := by decide +kernel
theorem d_M_distance_78 : decode b_M_distance 78 = .ok (.goto 4, 3) := by decide +kernel
theorem d_M_distance_81 : decode b_M_distance 81 = .ok (.iconst 0, 1) := by decide +kernel
theorem d_M_distance_82 : decode b_M_distance 82 = .ok (.iastore, 1) := by decide +kernel
theorem d_M_distance_83 : decode b_M_distance 83 = .ok (.iinc 3 1, 3) := by decide +kernel
theorem d_M_distance_86 : decode b_M_distance 86 = .ok (.goto (-34), 3) := by decide +kernel
theorem d_M_distance_89 : decode b_M_distance 89 = .ok (.iconst 1, 1) := by decide +kernel
theorem d_M_distance_90 : decode b_M_distance 90 = .ok (.istore_n 3, 1) := by decide +kernel
theorem d_M_distance_91 : decode b_M_distance 91 = .ok (.aload_n 0, 1) := by decide +kernel
theorem d_M_distance_92 : decode b_M_distance 92 = .ok (.getfield 22, 3) := by decide +kernel
theorem d_M_distance_95 : decode b_M_distance 95 = .ok (.iload_n 2, 1) := by decide +kernel
theorem d_M_distance_96 : decode b_M_distance 96 = .ok (.iaload, 1) := by decide +kernel
theorem d_M_distance_97 : decode b_M_distance 97 = .ok (.ifCond .ne 91, 3) := by decide +kernel
theorem d_M_distance_100 : decode b_M_distance 100 = .ok (.iconst 0, 1) := by decide +kernel
theorem d_M_distance_101 : decode b_M_distance 101 = .ok (.istore 4, 2) := by decide +kernel
theorem d_M_distance_103 : decode b_M_distance 103 = .ok (.iload 4, 2) := by decide +kernel
theorem d_M_distance_105 : decode b_M_distance 105 = .ok (.bipush 32, 2) := by decide +kernel
theorem d_M_distance_107 : decode b_M_distance 107 = .ok (.if_icmp .ge 75, 3) := by decide +kernel
theorem d_M_distance_110 : decode b_M_distance 110 = .ok (.aload_n 0, 1) := by decide +kernel
theorem d_M_distance_111 : decode b_M_distance 111 = .ok (.getfield 22, 3) := by decide +kernel
theorem d_M_distance_114 : decode b_M_distance 114 = .ok (.iload 4, 2) := by decide +kernel
theorem d_M_distance_116 : decode b_M_distance 116 = .ok (.iaload, 1) := by decide +kernel
theorem d_M_distance_117 : decode b_M_distance 117 = .ok (.iload_n 3, 1) := by decide +kernel
theorem d_M_distance_118 : decode b_M_distance 118 = .ok (.if_icmp .eq 6, 3) := by decide +kernel
theorem d_M_distance_121 : decode b_M_distance 121 = .ok (.goto 55, 3) := by decide +kernel
theorem d_M_distance_124 : decode b_M_distance 124 = .ok (.iconst 0, 1) := by decide +kernel
theorem d_M_distance_125 : decode b_M_distance 125 = .ok (.istore 5, 2) := by decide +kernel
theorem d_M_distance_127 : decode b_M_distance 127 = .ok (.iload 5, 2) := by decide +kernel
theorem d_M_distance_129 : decode b_M_distance 129 = .ok (.bipush 32, 2) := by decide +kernel
theorem d_M_distance_131 : decode b_M_distance 131 = .ok (.if_icmp .ge 45, 3) := by decide +kernel
theorem d_M_distance_134 : decode b_M_distance 134 = .ok (.aload_n 0, 1) := by decide +kernel
theorem d_M_distance_135 : decode b_M_distance 135 = .ok (.getfield 22, 3) := by decide +kernel
theorem d_M_distance_138 : decode b_M_distance 138 = .ok (.iload 5, 2) := by decide +kernel
theorem d_M_distance_140 : decode b_M_distance 140 = .ok (.iaload, 1) := by decide +kernel
theorem d_M_distance_141 : decode b_M_distance 141 = .ok (.ifCond .ne 29, 3) := by decide +kernel
theorem d_M_distance_144 : decode b_M_distance 144 = .ok (.aload_n 0, 1) := by decide +kernel
theorem d_M_distance_145 : decode b_M_distance 145 = .ok (.getfield 9, 3) := by decide +kernel
theorem d_M_distance_148 : decode b_M_distance 148 = .ok (.bipush 32, 2) := by decide +kernel
theorem d_M_distance_150 : decode b_M_distance 150 = .ok (.iload 4, 2) := by decide +kernel
theorem d_M_distance_152 : decode b_M_distance 152 = .ok (.imul, 1) := by decide +kernel
theorem d_M_distance_153 : decode b_M_distance 153 = .ok (.iload 5, 2) := by decide +kernel
theorem d_M_distance_155 : decode b_M_distance 155 = .ok (.iadd, 1) := by decide +kernel
theorem d_M_distance_156 : decode b_M_distance 156 = .ok (.iaload, 1) := by decide +kernel
theorem d_M_distance_157 : decode b_M_distance 157 = .ok (.ifCond .le 13, 3) := by decide +kernel
theorem d_M_distance_160 : decode b_M_distance 160 = .ok (.aload_n 0, 1) := by decide +kernel
theorem d_M_distance_161 : decode b_M_distance 161 = .ok (.getfield 22, 3) := by decide +kernel
theorem d_M_distance_164 : decode b_M_distance 164 = .ok (.iload 5, 2) := by decide +kernel
theorem d_M_distance_166 : decode b_M_distance 166 = .ok (.iload_n 3, 1) := by decide +kernel
theorem d_M_distance_167 : decode b_M_distance 167 = .ok (.iconst 1, 1) := by decide +kernel
theorem d_M_distance_168 : decode b_M_distance 168 = .ok (.iadd, 1) := by decide +kernel
theorem d_M_distance_169 : decode b_M_distance 169 = .ok (.iastore, 1) := by decide +kernel
theorem d_M_distance_170 : decode b_M_distance 170 = .ok (.iinc 5 1, 3) := by decide +kernel
theorem d_M_distance_173 : decode b_M_distance 173 = .ok (.goto (-46), 3) := by decide +kernel
theorem d_M_distance_176 : decode b_M_distance 176 = .ok (.iinc 4 1, 3) := by decide +kernel
theorem d_M_distance_179 : decode b_M_distance 179 = .ok (.goto (-76), 3) := by decide +kernel
theorem d_M_distance_182 : decode b_M_distance 182 = .ok (.iinc 3 1, 3) := by decide +kernel
theorem d_M_distance_185 : decode b_M_distance 185 = .ok (.goto (-94), 3) := by decide +kernel
theorem d_M_distance_188 : decode b_M_distance 188 = .ok (.aload_n 0, 1) := by decide +kernel
theorem d_M_distance_189 : decode b_M_distance 189 = .ok (.getfield 22, 3) := by decide +kernel
theorem d_M_distance_192 : decode b_M_distance 192 = .ok (.iload_n 2, 1) := by decide +kernel
theorem d_M_distance_193 : decode b_M_distance 193 = .ok (.iaload, 1) := by decide +kernel
theorem d_M_distance_194 : decode b_M_distance 194 = .ok (.ireturn, 1) := by decide +kernel
theorem d_M_times_0 : decode b_M_times 0 = .ok (.aload_n 0, 1) := by decide +kernel
theorem d_M_times_1 : decode b_M_times 1 = .ok (.iload_n 1, 1) := by decide +kernel
theorem d_M_times_2 : decode b_M_times 2 = .ok (.invokestatic 36, 3) := by decide +kernel
theorem d_M_times_5 : decode b_M_times 5 = .ok (.ifCond .eq 14, 3) := by decide +kernel
theorem d_M_times_8 : decode b_M_times 8 = .ok (.iload_n 2, 1) := by decide +kernel
theorem d_M_times_9 : decode b_M_times 9 = .ok (.invokestatic 36, 3) := by decide +kernel
theorem d_M_times_12 : decode b_M_times 12 = .ok (.ifCond .eq 7, 3) := by decide +kernel
theorem d_M_times_15 : decode b_M_times 15 = .ok (.iconst 0, 1) := by decide +kernel
theorem d_M_times_16 : decode b_M_times 16 = .ok (.goto 4, 3) := by decide +kernel
theorem d_M_times_19 : decode b_M_times 19 = .ok (.iconst 1, 1) := by decide +kernel
theorem d_M_times_20 : decode b_M_times 20 = .ok (.putfield 32, 3) := by decide +kernel
theorem d_M_times_23 : decode b_M_times 23 = .ok (.aload_n 0, 1) := by decide +kernel
theorem d_M_times_24 : decode b_M_times 24 = .ok (.getfield 32, 3) := by decide +kernel
theorem d_M_times_27 : decode b_M_times 27 = .ok (.ifCond .le 7, 3) := by decide +kernel
theorem d_M_times_30 : decode b_M_times 30 = .ok (.iconst 0, 1) := by decide +kernel
theorem d_M_times_31 : decode b_M_times 31 = .ok (.goto 14, 3) := by decide +kernel
theorem d_M_times_34 : decode b_M_times 34 = .ok (.aload_n 0, 1) := by decide +kernel
theorem d_M_times_35 : decode b_M_times 35 = .ok (.getfield 9, 3) := by decide +kernel
theorem d_M_times_38 : decode b_M_times 38 = .ok (.bipush 32, 2) := by decide +kernel
theorem d_M_times_40 : decode b_M_times 40 = .ok (.iload_n 1, 1) := by decide +kernel
theorem d_M_times_41 : decode b_M_times 41 = .ok (.imul, 1) := by decide +kernel
theorem d_M_times_42 : decode b_M_times 42 = .ok (.iload_n 2, 1) := by decide +kernel
theorem d_M_times_43 : decode b_M_times 43 = .ok (.iadd, 1) := by decide +kernel
theorem d_M_times_44 : decode b_M_times 44 = .ok (.iaload, 1) := by decide +kernel
theorem d_M_times_45 : decode b_M_times 45 = .ok (.ireturn, 1) := by decide +kernel
theorem d_M_count_0 : decode b_M_count 0 = .ok (.aload_n 0, 1) := by decide +kernel
theorem d_M_count_1 : decode b_M_count 1 = .ok (.iconst 0, 1) := by decide +kernel
theorem d_M_count_2 : decode b_M_count 2 = .ok (.putfield 32, 3) := by decide +kernel
theorem d_M_count_5 : decode b_M_count 5 = .ok (.iconst 0, 1) := by decide +kernel
theorem d_M_count_6 : decode b_M_count 6 = .ok (.istore_n 2, 1) := by decide +kernel
theorem d_M_count_7 : decode b_M_count 7 = .ok (.iconst 0, 1) := by decide +kernel
theorem d_M_count_8 : decode b_M_count 8 = .ok (.istore_n 3, 1) := by decide +kernel
theorem d_M_count_9 : decode b_M_count 9 = .ok (.iconst 0, 1) := by decide +kernel
theorem d_M_count_10 : decode b_M_count 10 = .ok (.istore 4, 2) := by decide +kernel
theorem d_M_count_12 : decode b_M_count 12 = .ok (.iconst 0, 1) := by decide +kernel
theorem d_M_count_13 : decode b_M_count 13 = .ok (.istore 5, 2) := by decide +kernel
theorem d_M_count_15 : decode b_M_count 15 = .ok (.iconst 0, 1) := by decide +kernel
theorem d_M_count_16 : decode b_M_count 16 = .ok (.istore 6, 2) := by decide +kernel
theorem d_M_count_18 : decode b_M_count 18 = .ok (.iconst 0, 1) := by decide +kernel
theorem d_M_count_19 : decode b_M_count 19 = .ok (.istore 7, 2) := by decide +kernel
theorem d_M_count_21 : decode b_M_count 21 = .ok (.iload 7, 2) := by decide +kernel
theorem d_M_count_23 : decode b_M_count 23 = .ok (.sipush 1024, 3) := by decide +kernel
theorem d_M_count_26 : decode b_M_count 26 = .ok (.if_icmp .ge 45, 3) := by decide +kernel
theorem d_M_count_29 : decode b_M_count 29 = .ok (.aload_n 0, 1) := by decide +kernel
theorem d_M_count_30 : decode b_M_count 30 = .ok (.getfield 9, 3) := by decide +kernel
theorem d_M_count_33 : decode b_M_count 33 = .ok (.iload 7, 2) := by decide +kernel
theorem d_M_count_35 : decode b_M_count 35 = .ok (.iaload, 1) := by decide +kernel
theorem d_M_count_36 : decode b_M_count 36 = .ok (.ifCond .le 6, 3) := by decide +kernel
theorem d_M_count_39 : decode b_M_count 39 = .ok (.iinc 2 1, 3) := by decide +kernel
theorem d_M_count_42 : decode b_M_count 42 = .ok (.iload_n 3, 1) := by decide +kernel
theorem d_M_count_43 : decode b_M_count 43 = .ok (.aload_n 0, 1) := by decide +kernel
theorem d_M_count_44 : decode b_M_count 44 = .ok (.getfield 9, 3) := by decide +kernel
theorem d_M_count_47 : decode b_M_count 47 = .ok (.iload 7, 2) := by decide +kernel
theorem d_M_count_49 : decode b_M_count 49 = .ok (.iaload, 1) := by decide +kernel
theorem d_M_count_50 : decode b_M_count 50 = .ok (.iadd, 1) := by decide +kernel
theorem d_M_count_51 : decode b_M_count 51 = .ok (.istore_n 3, 1) := by decide +kernel
theorem d_M_count_52 : decode b_M_count 52 = .ok (.aload_n 0, 1) := by decide +kernel
theorem d_M_count_53 : decode b_M_count 53 = .ok (.getfield 25, 3) := by decide +kernel
theorem d_M_count_56 : decode b_M_count 56 = .ok (.iload 7, 2) := by decide +kernel
theorem d_M_count_58 : decode b_M_count 58 = .ok (.baload, 1) := by decide +kernel
theorem d_M_count_59 : decode b_M_count 59 = .ok (.ifCond .eq 6, 3) := by decide +kernel
theorem d_M_count_62 : decode b_M_count 62 = .ok (.iinc 4 1, 3) := by decide +kernel
theorem d_M_count_65 : decode b_M_count 65 = .ok (.iinc 7 1, 3) := by decide +kernel
theorem d_M_count_68 : decode b_M_count 68 = .ok (.goto (-47), 3) := by decide +kernel
theorem d_M_count_71 : decode b_M_count 71 = .ok (.iconst 0, 1) := by decide +kernel
theorem d_M_count_72 : decode b_M_count 72 = .ok (.istore 7, 2) := by decide +kernel
theorem d_M_count_74 : decode b_M_count 74 = .ok (.iload 7, 2) := by decide +kernel
theorem d_M_count_76 : decode b_M_count 76 = .ok (.bipush 32, 2) := by decide +kernel
theorem d_M_count_78 : decode b_M_count 78 = .ok (.if_icmp .ge 93, 3) := by decide +kernel
theorem d_M_count_81 : decode b_M_count 81 = .ok (.aload_n 0, 1) := by decide +kernel
theorem d_M_count_82 : decode b_M_count 82 = .ok (.getfield 25, 3) := by decide +kernel
theorem d_M_count_85 : decode b_M_count 85 = .ok (.bipush 32, 2) := by decide +kernel
theorem d_M_count_87 : decode b_M_count 87 = .ok (.iload 7, 2) := by decide +kernel
theorem d_M_count_89 : decode b_M_count 89 = .ok (.imul, 1) := by decide +kernel
theorem d_M_count_90 : decode b_M_count 90 = .ok (.iload 7, 2) := by decide +kernel
theorem d_M_count_92 : decode b_M_count 92 = .ok (.iadd, 1) := by decide +kernel
theorem d_M_count_93 : decode b_M_count 93 = .ok (.baload, 1) := by decide +kernel
theorem d_M_count_94 : decode b_M_count 94 = .ok (.ifCond .ne 6, 3) := by decide +kernel
theorem d_M_count_97 : decode b_M_count 97 = .ok (.goto 68, 3) := by decide +kernel
theorem d_M_count_100 : decode b_M_count 100 = .ok (.iinc 5 1, 3) := by decide +kernel
theorem d_M_count_103 : decode b_M_count 103 = .ok (.iconst 1, 1) := by decide +kernel
theorem d_M_count_104 : decode b_M_count 104 = .ok (.istore 8, 2) := by decide +kernel
theorem d_M_count_106 : decode b_M_count 106 = .ok (.iconst 0, 1) := by decide +kernel
theorem d_M_count_107 : decode b_M_count 107 = .ok (.istore 9, 2) := by decide +kernel
theorem d_M_count_109 : decode b_M_count 109 = .ok (.iload 9, 2) := by decide +kernel
theorem d_M_count_111 : decode b_M_count 111 = .ok (.iload 7, 2) := by decide +kernel
theorem d_M_count_113 : decode b_M_count 113 = .ok (.if_icmp .ge 44, 3) := by decide +kernel
theorem d_M_count_116 : decode b_M_count 116 = .ok (.aload_n 0, 1) := by decide +kernel
theorem d_M_count_117 : decode b_M_count 117 = .ok (.getfield 25, 3) := by decide +kernel
theorem d_M_count_120 : decode b_M_count 120 = .ok (.bipush 32, 2) := by decide +kernel
theorem d_M_count_122 : decode b_M_count 122 = .ok (.iload 7, 2) := by decide +kernel
theorem d_M_count_124 : decode b_M_count 124 = .ok (.imul, 1) := by decide +kernel
theorem d_M_count_125 : decode b_M_count 125 = .ok (.iload 9, 2) := by decide +kernel
theorem d_M_count_127 : decode b_M_count 127 = .ok (.iadd, 1) := by decide +kernel
theorem d_M_count_128 : decode b_M_count 128 = .ok (.baload, 1) := by decide +kernel
theorem d_M_count_129 : decode b_M_count 129 = .ok (.ifCond .eq 22, 3) := by decide +kernel
theorem d_M_count_132 : decode b_M_count 132 = .ok (.aload_n 0, 1) := by decide +kernel
theorem d_M_count_133 : decode b_M_count 133 = .ok (.getfield 25, 3) := by decide +kernel
theorem d_M_count_136 : decode b_M_count 136 = .ok (.bipush 32, 2) := by decide +kernel
theorem d_M_count_138 : decode b_M_count 138 = .ok (.iload 9, 2) := by decide +kernel
theorem d_M_count_140 : decode b_M_count 140 = .ok (.imul, 1) := by decide +kernel
theorem d_M_count_141 : decode b_M_count 141 = .ok (.iload 7, 2) := by decide +kernel
theorem d_M_count_143 : decode b_M_count 143 = .ok (.iadd, 1) := by decide +kernel
theorem d_M_count_144 : decode b_M_count 144 = .ok (.baload, 1) := by decide +kernel
theorem d_M_count_145 : decode b_M_count 145 = .ok (.ifCond .eq 6, 3) := by decide +kernel
theorem d_M_count_148 : decode b_M_count 148 = .ok (.iconst 0, 1) := by decide +kernel
theorem d_M_count_149 : decode b_M_count 149 = .ok (.istore 8, 2) := by decide +kernel
theorem d_M_count_151 : decode b_M_count 151 = .ok (.iinc 9 1, 3) := by decide +kernel
theorem d_M_count_154 : decode b_M_count 154 = .ok (.goto (-45), 3) := by decide +kernel
theorem d_M_count_157 : decode b_M_count 157 = .ok (.iload 8, 2) := by decide +kernel
theorem d_M_count_159 : decode b_M_count 159 = .ok (.ifCond .eq 6, 3) := by decide +kernel
theorem d_M_count_162 : decode b_M_count 162 = .ok (.iinc 6 1, 3) := by decide +kernel
theorem d_M_count_165 : decode b_M_count 165 = .ok (.iinc 7 1, 3) := by decide +kernel
theorem d_M_count_168 : decode b_M_count 168 = .ok (.goto (-94), 3) := by decide +kernel
theorem d_M_count_171 : decode b_M_count 171 = .ok (.iload_n 1, 1) := by decide +kernel
theorem d_M_count_172 : decode b_M_count 172 = .ok (.tableswitch 78 0 7 #[48, 50, 52, 55, 60, 66, 72, 75], 48) := by decide +kernel
theorem d_M_count_220 : decode b_M_count 220 = .ok (.iload_n 2, 1) := by decide +kernel
theorem d_M_count_221 : decode b_M_count 221 = .ok (.ireturn, 1) := by decide +kernel
theorem d_M_count_222 : decode b_M_count 222 = .ok (.iload_n 3, 1) := by decide +kernel
theorem d_M_count_223 : decode b_M_count 223 = .ok (.ireturn, 1) := by decide +kernel
theorem d_M_count_224 : decode b_M_count 224 = .ok (.iload 4, 2) := by decide +kernel
theorem d_M_count_226 : decode b_M_count 226 = .ok (.ireturn, 1) := by decide +kernel
theorem d_M_count_227 : decode b_M_count 227 = .ok (.aload_n 0, 1) := by decide +kernel
theorem d_M_count_228 : decode b_M_count 228 = .ok (.getfield 40, 3) := by decide +kernel
theorem d_M_count_231 : decode b_M_count 231 = .ok (.ireturn, 1) := by decide +kernel
theorem d_M_count_232 : decode b_M_count 232 = .ok (.aload_n 0, 1) := by decide +kernel
theorem d_M_count_233 : decode b_M_count 233 = .ok (.iconst 1, 1) := by decide +kernel
theorem d_M_count_234 : decode b_M_count 234 = .ok (.invokevirtual 43, 3) := by decide +kernel
theorem d_M_count_237 : decode b_M_count 237 = .ok (.ireturn, 1) := by decide +kernel
theorem d_M_count_238 : decode b_M_count 238 = .ok (.aload_n 0, 1) := by decide +kernel
theorem d_M_count_239 : decode b_M_count 239 = .ok (.iconst 0, 1) := by decide +kernel
theorem d_M_count_240 : decode b_M_count 240 = .ok (.invokevirtual 43, 3) := by decide +kernel
theorem d_M_count_243 : decode b_M_count 243 = .ok (.ireturn, 1) := by decide +kernel
theorem d_M_count_244 : decode b_M_count 244 = .ok (.iload 5, 2) := by decide +kernel
theorem d_M_count_246 : decode b_M_count 246 = .ok (.ireturn, 1) := by decide +kernel
theorem d_M_count_247 : decode b_M_count 247 = .ok (.iload 6, 2) := by decide +kernel
theorem d_M_count_249 : decode b_M_count 249 = .ok (.ireturn, 1) := by decide +kernel
theorem d_M_count_250 : decode b_M_count 250 = .ok (.iconst (-1), 1) := by decide +kernel
theorem d_M_count_251 : decode b_M_count 251 = .ok (.ireturn, 1) := by decide +kernel
