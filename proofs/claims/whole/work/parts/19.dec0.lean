theorem d_U_init_0 : decode b_U_init 0 = .ok (.aload_n 0, 1) := by decide +kernel
theorem d_U_init_1 : decode b_U_init 1 = .ok (.invokespecial 1, 3) := by decide +kernel
theorem d_U_init_4 : decode b_U_init 4 = .ok (.aload_n 0, 1) := by decide +kernel
theorem d_U_init_5 : decode b_U_init 5 = .ok (.bipush 8, 2) := by decide +kernel
theorem d_U_init_7 : decode b_U_init 7 = .ok (.newarray .boolean, 2) := by decide +kernel
theorem d_U_init_9 : decode b_U_init 9 = .ok (.putfield 7, 3) := by decide +kernel
theorem d_U_init_12 : decode b_U_init 12 = .ok (.aload_n 0, 1) := by decide +kernel
theorem d_U_init_13 : decode b_U_init 13 = .ok (.bipush 8, 2) := by decide +kernel
theorem d_U_init_15 : decode b_U_init 15 = .ok (.newarray .int, 2) := by decide +kernel
theorem d_U_init_17 : decode b_U_init 17 = .ok (.putfield 13, 3) := by decide +kernel
theorem d_U_init_20 : decode b_U_init 20 = .ok (.aload_n 0, 1) := by decide +kernel
theorem d_U_init_21 : decode b_U_init 21 = .ok (.bipush 64, 2) := by decide +kernel
theorem d_U_init_23 : decode b_U_init 23 = .ok (.newarray .int, 2) := by decide +kernel
theorem d_U_init_25 : decode b_U_init 25 = .ok (.putfield 17, 3) := by decide +kernel
theorem d_U_init_28 : decode b_U_init 28 = .ok (.aload_n 0, 1) := by decide +kernel
theorem d_U_init_29 : decode b_U_init 29 = .ok (.bipush 6, 2) := by decide +kernel
theorem d_U_init_31 : decode b_U_init 31 = .ok (.newarray .int, 2) := by decide +kernel
theorem d_U_init_33 : decode b_U_init 33 = .ok (.putfield 20, 3) := by decide +kernel
theorem d_U_init_36 : decode b_U_init 36 = .ok (.aload_n 0, 1) := by decide +kernel
theorem d_U_init_37 : decode b_U_init 37 = .ok (.bipush 6, 2) := by decide +kernel
theorem d_U_init_39 : decode b_U_init 39 = .ok (.newarray .int, 2) := by decide +kernel
theorem d_U_init_41 : decode b_U_init 41 = .ok (.dup, 1) := by decide +kernel
theorem d_U_init_42 : decode b_U_init 42 = .ok (.iconst 0, 1) := by decide +kernel
theorem d_U_init_43 : decode b_U_init 43 = .ok (.iconst (-1), 1) := by decide +kernel
theorem d_U_init_44 : decode b_U_init 44 = .ok (.iastore, 1) := by decide +kernel
theorem d_U_init_45 : decode b_U_init 45 = .ok (.dup, 1) := by decide +kernel
theorem d_U_init_46 : decode b_U_init 46 = .ok (.iconst 1, 1) := by decide +kernel
theorem d_U_init_47 : decode b_U_init 47 = .ok (.iconst (-1), 1) := by decide +kernel
theorem d_U_init_48 : decode b_U_init 48 = .ok (.iastore, 1) := by decide +kernel
theorem d_U_init_49 : decode b_U_init 49 = .ok (.dup, 1) := by decide +kernel
theorem d_U_init_50 : decode b_U_init 50 = .ok (.iconst 2, 1) := by decide +kernel
theorem d_U_init_51 : decode b_U_init 51 = .ok (.iconst (-1), 1) := by decide +kernel
theorem d_U_init_52 : decode b_U_init 52 = .ok (.iastore, 1) := by decide +kernel
theorem d_U_init_53 : decode b_U_init 53 = .ok (.dup, 1) := by decide +kernel
theorem d_U_init_54 : decode b_U_init 54 = .ok (.iconst 3, 1) := by decide +kernel
theorem d_U_init_55 : decode b_U_init 55 = .ok (.iconst (-1), 1) := by decide +kernel
theorem d_U_init_56 : decode b_U_init 56 = .ok (.iastore, 1) := by decide +kernel
theorem d_U_init_57 : decode b_U_init 57 = .ok (.dup, 1) := by decide +kernel
theorem d_U_init_58 : decode b_U_init 58 = .ok (.iconst 4, 1) := by decide +kernel
theorem d_U_init_59 : decode b_U_init 59 = .ok (.iconst (-1), 1) := by decide +kernel
theorem d_U_init_60 : decode b_U_init 60 = .ok (.iastore, 1) := by decide +kernel
theorem d_U_init_61 : decode b_U_init 61 = .ok (.dup, 1) := by decide +kernel
theorem d_U_init_62 : decode b_U_init 62 = .ok (.iconst 5, 1) := by decide +kernel
theorem d_U_init_63 : decode b_U_init 63 = .ok (.iconst (-1), 1) := by decide +kernel
theorem d_U_init_64 : decode b_U_init 64 = .ok (.iastore, 1) := by decide +kernel
theorem d_U_init_65 : decode b_U_init 65 = .ok (.putfield 23, 3) := by decide +kernel
theorem d_U_init_68 : decode b_U_init 68 = .ok (.aload_n 0, 1) := by decide +kernel
theorem d_U_init_69 : decode b_U_init 69 = .ok (.bipush 6, 2) := by decide +kernel
theorem d_U_init_71 : decode b_U_init 71 = .ok (.newarray .int, 2) := by decide +kernel
theorem d_U_init_73 : decode b_U_init 73 = .ok (.dup, 1) := by decide +kernel
theorem d_U_init_74 : decode b_U_init 74 = .ok (.iconst 0, 1) := by decide +kernel
theorem d_U_init_75 : decode b_U_init 75 = .ok (.iconst (-1), 1) := by decide +kernel
theorem d_U_init_76 : decode b_U_init 76 = .ok (.iastore, 1) := by decide +kernel
theorem d_U_init_77 : decode b_U_init 77 = .ok (.dup, 1) := by decide +kernel
theorem d_U_init_78 : decode b_U_init 78 = .ok (.iconst 1, 1) := by decide +kernel
theorem d_U_init_79 : decode b_U_init 79 = .ok (.iconst (-1), 1) := by decide +kernel
theorem d_U_init_80 : decode b_U_init 80 = .ok (.iastore, 1) := by decide +kernel
theorem d_U_init_81 : decode b_U_init 81 = .ok (.dup, 1) := by decide +kernel
theorem d_U_init_82 : decode b_U_init 82 = .ok (.iconst 2, 1) := by decide +kernel
theorem d_U_init_83 : decode b_U_init 83 = .ok (.iconst (-1), 1) := by decide +kernel
theorem d_U_init_84 : decode b_U_init 84 = .ok (.iastore, 1) := by decide +kernel
theorem d_U_init_85 : decode b_U_init 85 = .ok (.dup, 1) := by decide +kernel
theorem d_U_init_86 : decode b_U_init 86 = .ok (.iconst 3, 1) := by decide +kernel
theorem d_U_init_87 : decode b_U_init 87 = .ok (.iconst (-1), 1) := by decide +kernel
theorem d_U_init_88 : decode b_U_init 88 = .ok (.iastore, 1) := by decide +kernel
theorem d_U_init_89 : decode b_U_init 89 = .ok (.dup, 1) := by decide +kernel
theorem d_U_init_90 : decode b_U_init 90 = .ok (.iconst 4, 1) := by decide +kernel
theorem d_U_init_91 : decode b_U_init 91 = .ok (.iconst (-1), 1) := by decide +kernel
theorem d_U_init_92 : decode b_U_init 92 = .ok (.iastore, 1) := by decide +kernel
theorem d_U_init_93 : decode b_U_init 93 = .ok (.dup, 1) := by decide +kernel
theorem d_U_init_94 : decode b_U_init 94 = .ok (.iconst 5, 1) := by decide +kernel
theorem d_U_init_95 : decode b_U_init 95 = .ok (.iconst (-1), 1) := by decide +kernel
theorem d_U_init_96 : decode b_U_init 96 = .ok (.iastore, 1) := by decide +kernel
theorem d_U_init_97 : decode b_U_init 97 = .ok (.putfield 26, 3) := by decide +kernel
theorem d_U_init_100 : decode b_U_init 100 = .ok (.aload_n 0, 1) := by decide +kernel
theorem d_U_init_101 : decode b_U_init 101 = .ok (.bipush 6, 2) := by decide +kernel
theorem d_U_init_103 : decode b_U_init 103 = .ok (.newarray .boolean, 2) := by decide +kernel
theorem d_U_init_105 : decode b_U_init 105 = .ok (.putfield 29, 3) := by decide +kernel
theorem d_U_init_108 : decode b_U_init 108 = .ok (.aload_n 0, 1) := by decide +kernel
theorem d_U_init_109 : decode b_U_init 109 = .ok (.bipush 6, 2) := by decide +kernel
theorem d_U_init_111 : decode b_U_init 111 = .ok (.newarray .int, 2) := by decide +kernel
theorem d_U_init_113 : decode b_U_init 113 = .ok (.putfield 32, 3) := by decide +kernel
theorem d_U_init_116 : decode b_U_init 116 = .ok (.aload_n 0, 1) := by decide +kernel
theorem d_U_init_117 : decode b_U_init 117 = .ok (.bipush 6, 2) := by decide +kernel
theorem d_U_init_119 : decode b_U_init 119 = .ok (.newarray .int, 2) := by decide +kernel
theorem d_U_init_121 : decode b_U_init 121 = .ok (.putfield 35, 3) := by decide +kernel
theorem d_U_init_124 : decode b_U_init 124 = .ok (.aload_n 0, 1) := by decide +kernel
theorem d_U_init_125 : decode b_U_init 125 = .ok (.bipush 60, 2) := by decide +kernel
theorem d_U_init_127 : decode b_U_init 127 = .ok (.newarray .int, 2) := by decide +kernel
theorem d_U_init_129 : decode b_U_init 129 = .ok (.putfield 38, 3) := by decide +kernel
theorem d_U_init_132 : decode b_U_init 132 = .ok (.aload_n 0, 1) := by decide +kernel
theorem d_U_init_133 : decode b_U_init 133 = .ok (.bipush 60, 2) := by decide +kernel
theorem d_U_init_135 : decode b_U_init 135 = .ok (.newarray .int, 2) := by decide +kernel
theorem d_U_init_137 : decode b_U_init 137 = .ok (.putfield 41, 3) := by decide +kernel
theorem d_U_init_140 : decode b_U_init 140 = .ok (.aload_n 0, 1) := by decide +kernel
theorem d_U_init_141 : decode b_U_init 141 = .ok (.bipush 60, 2) := by decide +kernel
theorem d_U_init_143 : decode b_U_init 143 = .ok (.newarray .int, 2) := by decide +kernel
theorem d_U_init_145 : decode b_U_init 145 = .ok (.putfield 44, 3) := by decide +kernel
theorem d_U_init_148 : decode b_U_init 148 = .ok (.aload_n 0, 1) := by decide +kernel
theorem d_U_init_149 : decode b_U_init 149 = .ok (.bipush 60, 2) := by decide +kernel
theorem d_U_init_151 : decode b_U_init 151 = .ok (.newarray .int, 2) := by decide +kernel
theorem d_U_init_153 : decode b_U_init 153 = .ok (.putfield 47, 3) := by decide +kernel
theorem d_U_init_156 : decode b_U_init 156 = .ok (.aload_n 0, 1) := by decide +kernel
theorem d_U_init_157 : decode b_U_init 157 = .ok (.bipush 6, 2) := by decide +kernel
theorem d_U_init_159 : decode b_U_init 159 = .ok (.newarray .int, 2) := by decide +kernel
theorem d_U_init_161 : decode b_U_init 161 = .ok (.putfield 50, 3) := by decide +kernel
theorem d_U_init_164 : decode b_U_init 164 = .ok (.aload_n 0, 1) := by decide +kernel
theorem d_U_init_165 : decode b_U_init 165 = .ok (.bipush 32, 2) := by decide +kernel
theorem d_U_init_167 : decode b_U_init 167 = .ok (.newarray .int, 2) := by decide +kernel
theorem d_U_init_169 : decode b_U_init 169 = .ok (.putfield 53, 3) := by decide +kernel
theorem d_U_init_172 : decode b_U_init 172 = .ok (.aload_n 0, 1) := by decide +kernel
theorem d_U_init_173 : decode b_U_init 173 = .ok (.bipush 32, 2) := by decide +kernel
theorem d_U_init_175 : decode b_U_init 175 = .ok (.newarray .int, 2) := by decide +kernel
theorem d_U_init_177 : decode b_U_init 177 = .ok (.putfield 56, 3) := by decide +kernel
theorem d_U_init_180 : decode b_U_init 180 = .ok (.aload_n 0, 1) := by decide +kernel
theorem d_U_init_181 : decode b_U_init 181 = .ok (.bipush 32, 2) := by decide +kernel
theorem d_U_init_183 : decode b_U_init 183 = .ok (.newarray .int, 2) := by decide +kernel
theorem d_U_init_185 : decode b_U_init 185 = .ok (.putfield 59, 3) := by decide +kernel
theorem d_U_init_188 : decode b_U_init 188 = .ok (.aload_n 0, 1) := by decide +kernel
theorem d_U_init_189 : decode b_U_init 189 = .ok (.bipush 8, 2) := by decide +kernel
theorem d_U_init_191 : decode b_U_init 191 = .ok (.newarray .int, 2) := by decide +kernel
theorem d_U_init_193 : decode b_U_init 193 = .ok (.putfield 62, 3) := by decide +kernel
theorem d_U_init_196 : decode b_U_init 196 = .ok (.aload_n 0, 1) := by decide +kernel
theorem d_U_init_197 : decode b_U_init 197 = .ok (.bipush 8, 2) := by decide +kernel
theorem d_U_init_199 : decode b_U_init 199 = .ok (.newarray .int, 2) := by decide +kernel
theorem d_U_init_201 : decode b_U_init 201 = .ok (.putfield 65, 3) := by decide +kernel
theorem d_U_init_204 : decode b_U_init 204 = .ok (.aload_n 0, 1) := by decide +kernel
theorem d_U_init_205 : decode b_U_init 205 = .ok (.bipush 8, 2) := by decide +kernel
theorem d_U_init_207 : decode b_U_init 207 = .ok (.newarray .int, 2) := by decide +kernel
theorem d_U_init_209 : decode b_U_init 209 = .ok (.putfield 68, 3) := by decide +kernel
theorem d_U_init_212 : decode b_U_init 212 = .ok (.aload_n 0, 1) := by decide +kernel
theorem d_U_init_213 : decode b_U_init 213 = .ok (.bipush 8, 2) := by decide +kernel
theorem d_U_init_215 : decode b_U_init 215 = .ok (.newarray .int, 2) := by decide +kernel
theorem d_U_init_217 : decode b_U_init 217 = .ok (.putfield 71, 3) := by decide +kernel
theorem d_U_init_220 : decode b_U_init 220 = .ok (.aload_n 0, 1) := by decide +kernel
theorem d_U_init_221 : decode b_U_init 221 = .ok (.bipush 8, 2) := by decide +kernel
theorem d_U_init_223 : decode b_U_init 223 = .ok (.newarray .int, 2) := by decide +kernel
theorem d_U_init_225 : decode b_U_init 225 = .ok (.putfield 74, 3) := by decide +kernel
theorem d_U_init_228 : decode b_U_init 228 = .ok (.aload_n 0, 1) := by decide +kernel
theorem d_U_init_229 : decode b_U_init 229 = .ok (.bipush 8, 2) := by decide +kernel
theorem d_U_init_231 : decode b_U_init 231 = .ok (.newarray .int, 2) := by decide +kernel
theorem d_U_init_233 : decode b_U_init 233 = .ok (.putfield 77, 3) := by decide +kernel
theorem d_U_init_236 : decode b_U_init 236 = .ok (.aload_n 0, 1) := by decide +kernel
theorem d_U_init_237 : decode b_U_init 237 = .ok (.bipush 8, 2) := by decide +kernel
theorem d_U_init_239 : decode b_U_init 239 = .ok (.newarray .int, 2) := by decide +kernel
theorem d_U_init_241 : decode b_U_init 241 = .ok (.putfield 80, 3) := by decide +kernel
theorem d_U_init_244 : decode b_U_init 244 = .ok (.aload_n 0, 1) := by decide +kernel
theorem d_U_init_245 : decode b_U_init 245 = .ok (.iconst 1, 1) := by decide +kernel
theorem d_U_init_246 : decode b_U_init 246 = .ok (.putfield 83, 3) := by decide +kernel
theorem d_U_init_249 : decode b_U_init 249 = .ok (.return_, 1) := by decide +kernel
theorem d_U_thrown_0 : decode b_U_thrown 0 = .ok (.aload_n 0, 1) := by decide +kernel
theorem d_U_thrown_1 : decode b_U_thrown 1 = .ok (.getfield 87, 3) := by decide +kernel
theorem d_U_thrown_4 : decode b_U_thrown 4 = .ok (.ireturn, 1) := by decide +kernel
theorem d_U_raise_0 : decode b_U_raise 0 = .ok (.aload_n 0, 1) := by decide +kernel
theorem d_U_raise_1 : decode b_U_raise 1 = .ok (.iload_n 1, 1) := by decide +kernel
theorem d_U_raise_2 : decode b_U_raise 2 = .ok (.putfield 87, 3) := by decide +kernel
theorem d_U_raise_5 : decode b_U_raise 5 = .ok (.iconst 0, 1) := by decide +kernel
theorem d_U_raise_6 : decode b_U_raise 6 = .ok (.ireturn, 1) := by decide +kernel
theorem d_U_in_0 : decode b_U_in 0 = .ok (.iload_n 0, 1) := by decide +kernel
theorem d_U_in_1 : decode b_U_in 1 = .ok (.iload_n 1, 1) := by decide +kernel
theorem d_U_in_2 : decode b_U_in 2 = .ok (.if_icmp .lt 12, 3) := by decide +kernel
theorem d_U_in_5 : decode b_U_in 5 = .ok (.iload_n 0, 1) := by decide +kernel
theorem d_U_in_6 : decode b_U_in 6 = .ok (.iload_n 2, 1) := by decide +kernel
theorem d_U_in_7 : decode b_U_in 7 = .ok (.if_icmp .gt 7, 3) := by decide +kernel
theorem d_U_in_10 : decode b_U_in 10 = .ok (.iconst 1, 1) := by decide +kernel
theorem d_U_in_11 : decode b_U_in 11 = .ok (.goto 4, 3) := by decide +kernel
theorem d_U_in_14 : decode b_U_in 14 = .ok (.iconst 0, 1) := by decide +kernel
theorem d_U_in_15 : decode b_U_in 15 = .ok (.ireturn, 1) := by decide +kernel
theorem d_U_isConnection_0 : decode b_U_isConnection 0 = .ok (.iload_n 0, 1) := by decide +kernel
theorem d_U_isConnection_1 : decode b_U_isConnection 1 = .ok (.iconst 0, 1) := by decide +kernel
theorem d_U_isConnection_2 : decode b_U_isConnection 2 = .ok (.iconst 5, 1) := by decide +kernel
theorem d_U_isConnection_3 : decode b_U_isConnection 3 = .ok (.invokestatic 91, 3) := by decide +kernel
theorem d_U_isConnection_6 : decode b_U_isConnection 6 = .ok (.ireturn, 1) := by decide +kernel
theorem d_U_isAccount_0 : decode b_U_isAccount 0 = .ok (.iload_n 0, 1) := by decide +kernel
theorem d_U_isAccount_1 : decode b_U_isAccount 1 = .ok (.iconst 0, 1) := by decide +kernel
theorem d_U_isAccount_2 : decode b_U_isAccount 2 = .ok (.bipush 7, 2) := by decide +kernel
theorem d_U_isAccount_4 : decode b_U_isAccount 4 = .ok (.invokestatic 91, 3) := by decide +kernel
theorem d_U_isAccount_7 : decode b_U_isAccount 7 = .ok (.ireturn, 1) := by decide +kernel
theorem d_U_marked_0 : decode b_U_marked 0 = .ok (.aload_n 0, 1) := by decide +kernel
theorem d_U_marked_1 : decode b_U_marked 1 = .ok (.getfield 17, 3) := by decide +kernel
theorem d_U_marked_4 : decode b_U_marked 4 = .ok (.bipush 8, 2) := by decide +kernel
theorem d_U_marked_6 : decode b_U_marked 6 = .ok (.iload_n 1, 1) := by decide +kernel
theorem d_U_marked_7 : decode b_U_marked 7 = .ok (.imul, 1) := by decide +kernel
theorem d_U_marked_8 : decode b_U_marked 8 = .ok (.iload_n 2, 1) := by decide +kernel
theorem d_U_marked_9 : decode b_U_marked 9 = .ok (.iadd, 1) := by decide +kernel
theorem d_U_marked_10 : decode b_U_marked 10 = .ok (.iaload, 1) := by decide +kernel
theorem d_U_marked_11 : decode b_U_marked 11 = .ok (.iload_n 3, 1) := by decide +kernel
theorem d_U_marked_12 : decode b_U_marked 12 = .ok (.iand, 1) := by decide +kernel
theorem d_U_marked_13 : decode b_U_marked 13 = .ok (.ifCond .eq 7, 3) := by decide +kernel
theorem d_U_marked_16 : decode b_U_marked 16 = .ok (.iconst 1, 1) := by decide +kernel
theorem d_U_marked_17 : decode b_U_marked 17 = .ok (.goto 4, 3) := by decide +kernel
theorem d_U_marked_20 : decode b_U_marked 20 = .ok (.iconst 0, 1) := by decide +kernel
theorem d_U_marked_21 : decode b_U_marked 21 = .ok (.ireturn, 1) := by decide +kernel
theorem d_U_mark_0 : decode b_U_mark 0 = .ok (.aload_n 0, 1) := by decide +kernel
theorem d_U_mark_1 : decode b_U_mark 1 = .ok (.getfield 17, 3) := by decide +kernel
theorem d_U_mark_4 : decode b_U_mark 4 = .ok (.bipush 8, 2) := by decide +kernel
theorem d_U_mark_6 : decode b_U_mark 6 = .ok (.iload_n 1, 1) := by decide +kernel
theorem d_U_mark_7 : decode b_U_mark 7 = .ok (.imul, 1) := by decide +kernel
theorem d_U_mark_8 : decode b_U_mark 8 = .ok (.iload_n 2, 1) := by decide +kernel
theorem d_U_mark_9 : decode b_U_mark 9 = .ok (.iadd, 1) := by decide +kernel
theorem d_U_mark_10 : decode b_U_mark 10 = .ok (.dup2, 1) := by decide +kernel
theorem d_U_mark_11 : decode b_U_mark 11 = .ok (.iaload, 1) := by decide +kernel
theorem d_U_mark_12 : decode b_U_mark 12 = .ok (.iload_n 3, 1) := by decide +kernel
theorem d_U_mark_13 : decode b_U_mark 13 = .ok (.ior, 1) := by decide +kernel
theorem d_U_mark_14 : decode b_U_mark 14 = .ok (.iastore, 1) := by decide +kernel
theorem d_U_mark_15 : decode b_U_mark 15 = .ok (.return_, 1) := by decide +kernel
theorem d_U_unmark_0 : decode b_U_unmark 0 = .ok (.aload_n 0, 1) := by decide +kernel
theorem d_U_unmark_1 : decode b_U_unmark 1 = .ok (.getfield 17, 3) := by decide +kernel
theorem d_U_unmark_4 : decode b_U_unmark 4 = .ok (.bipush 8, 2) := by decide +kernel
theorem d_U_unmark_6 : decode b_U_unmark 6 = .ok (.iload_n 1, 1) := by decide +kernel
theorem d_U_unmark_7 : decode b_U_unmark 7 = .ok (.imul, 1) := by decide +kernel
theorem d_U_unmark_8 : decode b_U_unmark 8 = .ok (.iload_n 2, 1) := by decide +kernel
theorem d_U_unmark_9 : decode b_U_unmark 9 = .ok (.iadd, 1) := by decide +kernel
theorem d_U_unmark_10 : decode b_U_unmark 10 = .ok (.dup2, 1) := by decide +kernel
theorem d_U_unmark_11 : decode b_U_unmark 11 = .ok (.iaload, 1) := by decide +kernel
theorem d_U_unmark_12 : decode b_U_unmark 12 = .ok (.iload_n 3, 1) := by decide +kernel
theorem d_U_unmark_13 : decode b_U_unmark 13 = .ok (.iconst (-1), 1) := by decide +kernel
theorem d_U_unmark_14 : decode b_U_unmark 14 = .ok (.ixor, 1) := by decide +kernel
theorem d_U_unmark_15 : decode b_U_unmark 15 = .ok (.iand, 1) := by decide +kernel
theorem d_U_unmark_16 : decode b_U_unmark 16 = .ok (.iastore, 1) := by decide +kernel
theorem d_U_unmark_17 : decode b_U_unmark 17 = .ok (.return_, 1) := by decide +kernel
theorem d_U_put_0 : decode b_U_put 0 = .ok (.aload_n 0, 1) := by decide +kernel
theorem d_U_put_1 : decode b_U_put 1 = .ok (.getfield 50, 3) := by decide +kernel
theorem d_U_put_4 : decode b_U_put 4 = .ok (.iload_n 1, 1) := by decide +kernel
theorem d_U_put_5 : decode b_U_put 5 = .ok (.iaload, 1) := by decide +kernel
theorem d_U_put_6 : decode b_U_put 6 = .ok (.bipush 10, 2) := by decide +kernel
theorem d_U_put_8 : decode b_U_put 8 = .ok (.if_icmp .ne 14, 3) := by decide +kernel
theorem d_U_put_11 : decode b_U_put 11 = .ok (.aload_n 0, 1) := by decide +kernel
theorem d_U_put_12 : decode b_U_put 12 = .ok (.dup, 1) := by decide +kernel
theorem d_U_put_13 : decode b_U_put 13 = .ok (.getfield 95, 3) := by decide +kernel
theorem d_U_put_16 : decode b_U_put 16 = .ok (.iconst 1, 1) := by decide +kernel
theorem d_U_put_17 : decode b_U_put 17 = .ok (.iadd, 1) := by decide +kernel
theorem d_U_put_18 : decode b_U_put 18 = .ok (.putfield 95, 3) := by decide +kernel
theorem d_U_put_21 : decode b_U_put 21 = .ok (.return_, 1) := by decide +kernel
theorem d_U_put_22 : decode b_U_put 22 = .ok (.bipush 10, 2) := by decide +kernel
theorem d_U_put_24 : decode b_U_put 24 = .ok (.iload_n 1, 1) := by decide +kernel
theorem d_U_put_25 : decode b_U_put 25 = .ok (.imul, 1) := by decide +kernel
theorem d_U_put_26 : decode b_U_put 26 = .ok (.aload_n 0, 1) := by decide +kernel
theorem d_U_put_27 : decode b_U_put 27 = .ok (.getfield 50, 3) := by decide +kernel
theorem d_U_put_30 : decode b_U_put 30 = .ok (.iload_n 1, 1) := by decide +kernel
theorem d_U_put_31 : decode b_U_put 31 = .ok (.iaload, 1) := by decide +kernel
theorem d_U_put_32 : decode b_U_put 32 = .ok (.iadd, 1) := by decide +kernel
theorem d_U_put_33 : decode b_U_put 33 = .ok (.istore 6, 2) := by decide +kernel
theorem d_U_put_35 : decode b_U_put 35 = .ok (.aload_n 0, 1) := by decide +kernel
theorem d_U_put_36 : decode b_U_put 36 = .ok (.getfield 38, 3) := by decide +kernel
theorem d_U_put_39 : decode b_U_put 39 = .ok (.iload 6, 2) := by decide +kernel
theorem d_U_put_41 : decode b_U_put 41 = .ok (.iload_n 2, 1) := by decide +kernel
theorem d_U_put_42 : decode b_U_put 42 = .ok (.iastore, 1) := by decide +kernel
theorem d_U_put_43 : decode b_U_put 43 = .ok (.aload_n 0, 1) := by decide +kernel
theorem d_U_put_44 : decode b_U_put 44 = .ok (.getfield 41, 3) := by decide +kernel
theorem d_U_put_47 : decode b_U_put 47 = .ok (.iload 6, 2) := by decide +kernel
theorem d_U_put_49 : decode b_U_put 49 = .ok (.iload_n 3, 1) := by decide +kernel
theorem d_U_put_50 : decode b_U_put 50 = .ok (.iastore, 1) := by decide +kernel
theorem d_U_put_51 : decode b_U_put 51 = .ok (.aload_n 0, 1) := by decide +kernel
theorem d_U_put_52 : decode b_U_put 52 = .ok (.getfield 44, 3) := by decide +kernel
theorem d_U_put_55 : decode b_U_put 55 = .ok (.iload 6, 2) := by decide +kernel
theorem d_U_put_57 : decode b_U_put 57 = .ok (.iload 4, 2) := by decide +kernel
theorem d_U_put_59 : decode b_U_put 59 = .ok (.iastore, 1) := by decide +kernel
theorem d_U_put_60 : decode b_U_put 60 = .ok (.aload_n 0, 1) := by decide +kernel
theorem d_U_put_61 : decode b_U_put 61 = .ok (.getfield 47, 3) := by decide +kernel
theorem d_U_put_64 : decode b_U_put 64 = .ok (.iload 6, 2) := by decide +kernel
theorem d_U_put_66 : decode b_U_put 66 = .ok (.iload 5, 2) := by decide +kernel
theorem d_U_put_68 : decode b_U_put 68 = .ok (.iastore, 1) := by decide +kernel
theorem d_U_put_69 : decode b_U_put 69 = .ok (.aload_n 0, 1) := by decide +kernel
theorem d_U_put_70 : decode b_U_put 70 = .ok (.getfield 50, 3) := by decide +kernel
theorem d_U_put_73 : decode b_U_put 73 = .ok (.iload_n 1, 1) := by decide +kernel
theorem d_U_put_74 : decode b_U_put 74 = .ok (.dup2, 1) := by decide +kernel
theorem d_U_put_75 : decode b_U_put 75 = .ok (.iaload, 1) := by decide +kernel
theorem d_U_put_76 : decode b_U_put 76 = .ok (.iconst 1, 1) := by decide +kernel
theorem d_U_put_77 : decode b_U_put 77 = .ok (.iadd, 1) := by decide +kernel
theorem d_U_put_78 : decode b_U_put 78 = .ok (.iastore, 1) := by decide +kernel
theorem d_U_put_79 : decode b_U_put 79 = .ok (.return_, 1) := by decide +kernel
theorem d_U_putAll_0 : decode b_U_putAll 0 = .ok (.iconst 0, 1) := by decide +kernel
theorem d_U_putAll_1 : decode b_U_putAll 1 = .ok (.istore 6, 2) := by decide +kernel
theorem d_U_putAll_3 : decode b_U_putAll 3 = .ok (.iload 6, 2) := by decide +kernel
theorem d_U_putAll_5 : decode b_U_putAll 5 = .ok (.bipush 6, 2) := by decide +kernel
theorem d_U_putAll_7 : decode b_U_putAll 7 = .ok (.if_icmp .ge 42, 3) := by decide +kernel
theorem d_U_putAll_10 : decode b_U_putAll 10 = .ok (.aload_n 0, 1) := by decide +kernel
theorem d_U_putAll_11 : decode b_U_putAll 11 = .ok (.getfield 29, 3) := by decide +kernel
theorem d_U_putAll_14 : decode b_U_putAll 14 = .ok (.iload 6, 2) := by decide +kernel
theorem d_U_putAll_16 : decode b_U_putAll 16 = .ok (.baload, 1) := by decide +kernel
theorem d_U_putAll_17 : decode b_U_putAll 17 = .ok (.ifCond .eq 26, 3) := by decide +kernel
theorem d_U_putAll_20 : decode b_U_putAll 20 = .ok (.aload_n 0, 1) := by decide +kernel
theorem d_U_putAll_21 : decode b_U_putAll 21 = .ok (.getfield 23, 3) := by decide +kernel
theorem d_U_putAll_24 : decode b_U_putAll 24 = .ok (.iload 6, 2) := by decide +kernel
theorem d_U_putAll_26 : decode b_U_putAll 26 = .ok (.iaload, 1) := by decide +kernel
theorem d_U_putAll_27 : decode b_U_putAll 27 = .ok (.iload_n 1, 1) := by decide +kernel
theorem d_U_putAll_28 : decode b_U_putAll 28 = .ok (.if_icmp .ne 15, 3) := by decide +kernel
theorem d_U_putAll_31 : decode b_U_putAll 31 = .ok (.aload_n 0, 1) := by decide +kernel
theorem d_U_putAll_32 : decode b_U_putAll 32 = .ok (.iload 6, 2) := by decide +kernel
theorem d_U_putAll_34 : decode b_U_putAll 34 = .ok (.iload_n 2, 1) := by decide +kernel
theorem d_U_putAll_35 : decode b_U_putAll 35 = .ok (.iload_n 3, 1) := by decide +kernel
theorem d_U_putAll_36 : decode b_U_putAll 36 = .ok (.iload 4, 2) := by decide +kernel
theorem d_U_putAll_38 : decode b_U_putAll 38 = .ok (.iload 5, 2) := by decide +kernel
theorem d_U_putAll_40 : decode b_U_putAll 40 = .ok (.invokevirtual 98, 3) := by decide +kernel
theorem d_U_putAll_43 : decode b_U_putAll 43 = .ok (.iinc 6 1, 3) := by decide +kernel
theorem d_U_putAll_46 : decode b_U_putAll 46 = .ok (.goto (-43), 3) := by decide +kernel
theorem d_U_putAll_49 : decode b_U_putAll 49 = .ok (.return_, 1) := by decide +kernel
theorem d_U_route_0 : decode b_U_route 0 = .ok (.iconst 0, 1) := by decide +kernel
theorem d_U_route_1 : decode b_U_route 1 = .ok (.istore 6, 2) := by decide +kernel
theorem d_U_route_3 : decode b_U_route 3 = .ok (.iload 6, 2) := by decide +kernel
theorem d_U_route_5 : decode b_U_route 5 = .ok (.bipush 6, 2) := by decide +kernel
theorem d_U_route_7 : decode b_U_route 7 = .ok (.if_icmp .ge 58, 3) := by decide +kernel
theorem d_U_route_10 : decode b_U_route 10 = .ok (.aload_n 0, 1) := by decide +kernel
theorem d_U_route_11 : decode b_U_route 11 = .ok (.getfield 29, 3) := by decide +kernel
theorem d_U_route_14 : decode b_U_route 14 = .ok (.iload 6, 2) := by decide +kernel
theorem d_U_route_16 : decode b_U_route 16 = .ok (.baload, 1) := by decide +kernel
theorem d_U_route_17 : decode b_U_route 17 = .ok (.ifCond .eq 42, 3) := by decide +kernel
theorem d_U_route_20 : decode b_U_route 20 = .ok (.aload_n 0, 1) := by decide +kernel
theorem d_U_route_21 : decode b_U_route 21 = .ok (.getfield 23, 3) := by decide +kernel
theorem d_U_route_24 : decode b_U_route 24 = .ok (.iload 6, 2) := by decide +kernel
theorem d_U_route_26 : decode b_U_route 26 = .ok (.iaload, 1) := by decide +kernel
theorem d_U_route_27 : decode b_U_route 27 = .ok (.iload_n 1, 1) := by decide +kernel
theorem d_U_route_28 : decode b_U_route 28 = .ok (.if_icmp .ne 31, 3) := by decide +kernel
theorem d_U_route_31 : decode b_U_route 31 = .ok (.aload_n 0, 1) := by decide +kernel
theorem d_U_route_32 : decode b_U_route 32 = .ok (.getfield 26, 3) := by decide +kernel
theorem d_U_route_35 : decode b_U_route 35 = .ok (.iload 6, 2) := by decide +kernel
theorem d_U_route_37 : decode b_U_route 37 = .ok (.iaload, 1) := by decide +kernel
theorem d_U_route_38 : decode b_U_route 38 = .ok (.iload 5, 2) := by decide +kernel
theorem d_U_route_40 : decode b_U_route 40 = .ok (.if_icmp .eq 6, 3) := by decide +kernel
theorem d_U_route_43 : decode b_U_route 43 = .ok (.goto 16, 3) := by decide +kernel
theorem d_U_route_46 : decode b_U_route 46 = .ok (.aload_n 0, 1) := by decide +kernel
theorem d_U_route_47 : decode b_U_route 47 = .ok (.iload 6, 2) := by decide +kernel
theorem d_U_route_49 : decode b_U_route 49 = .ok (.iconst 1, 1) := by decide +kernel
theorem d_U_route_50 : decode b_U_route 50 = .ok (.iload_n 2, 1) := by decide +kernel
theorem d_U_route_51 : decode b_U_route 51 = .ok (.iload_n 3, 1) := by decide +kernel
theorem d_U_route_52 : decode b_U_route 52 = .ok (.iload 4, 2) := by decide +kernel
theorem d_U_route_54 : decode b_U_route 54 = .ok (.invokevirtual 98, 3) := by decide +kernel
theorem d_U_route_57 : decode b_U_route 57 = .ok (.iconst 0, 1) := by decide +kernel
theorem d_U_route_58 : decode b_U_route 58 = .ok (.ireturn, 1) := by decide +kernel
theorem d_U_route_59 : decode b_U_route 59 = .ok (.iinc 6 1, 3) := by decide +kernel
theorem d_U_route_62 : decode b_U_route 62 = .ok (.goto (-59), 3) := by decide +kernel
theorem d_U_route_65 : decode b_U_route 65 = .ok (.iconst (-1), 1) := by decide +kernel
theorem d_U_route_66 : decode b_U_route 66 = .ok (.istore 6, 2) := by decide +kernel
theorem d_U_route_68 : decode b_U_route 68 = .ok (.iconst 0, 1) := by decide +kernel
theorem d_U_route_69 : decode b_U_route 69 = .ok (.istore 7, 2) := by decide +kernel
theorem d_U_route_71 : decode b_U_route 71 = .ok (.iload 7, 2) := by decide +kernel
theorem d_U_route_73 : decode b_U_route 73 = .ok (.bipush 6, 2) := by decide +kernel
theorem d_U_route_75 : decode b_U_route 75 = .ok (.if_icmp .ge 51, 3) := by decide +kernel
theorem d_U_route_78 : decode b_U_route 78 = .ok (.aload_n 0, 1) := by decide +kernel
theorem d_U_route_79 : decode b_U_route 79 = .ok (.getfield 29, 3) := by decide +kernel
theorem d_U_route_82 : decode b_U_route 82 = .ok (.iload 7, 2) := by decide +kernel
theorem d_U_route_84 : decode b_U_route 84 = .ok (.baload, 1) := by decide +kernel
theorem d_U_route_85 : decode b_U_route 85 = .ok (.ifCond .eq 35, 3) := by decide +kernel
theorem d_U_route_88 : decode b_U_route 88 = .ok (.aload_n 0, 1) := by decide +kernel
theorem d_U_route_89 : decode b_U_route 89 = .ok (.getfield 23, 3) := by decide +kernel
theorem d_U_route_92 : decode b_U_route 92 = .ok (.iload 7, 2) := by decide +kernel
theorem d_U_route_94 : decode b_U_route 94 = .ok (.iaload, 1) := by decide +kernel
theorem d_U_route_95 : decode b_U_route 95 = .ok (.iload_n 1, 1) := by decide +kernel
theorem d_U_route_96 : decode b_U_route 96 = .ok (.if_icmp .ne 24, 3) := by decide +kernel
theorem d_U_route_99 : decode b_U_route 99 = .ok (.aload_n 0, 1) := by decide +kernel
theorem d_U_route_100 : decode b_U_route 100 = .ok (.getfield 32, 3) := by decide +kernel
theorem d_U_route_103 : decode b_U_route 103 = .ok (.iload 7, 2) := by decide +kernel
theorem d_U_route_105 : decode b_U_route 105 = .ok (.iaload, 1) := by decide +kernel
theorem d_U_route_106 : decode b_U_route 106 = .ok (.iload 6, 2) := by decide +kernel
theorem d_U_route_108 : decode b_U_route 108 = .ok (.if_icmp .le 12, 3) := by decide +kernel
theorem d_U_route_111 : decode b_U_route 111 = .ok (.aload_n 0, 1) := by decide +kernel
theorem d_U_route_112 : decode b_U_route 112 = .ok (.getfield 32, 3) := by decide +kernel
theorem d_U_route_115 : decode b_U_route 115 = .ok (.iload 7, 2) := by decide +kernel
theorem d_U_route_117 : decode b_U_route 117 = .ok (.iaload, 1) := by decide +kernel
theorem d_U_route_118 : decode b_U_route 118 = .ok (.istore 6, 2) := by decide +kernel
theorem d_U_route_120 : decode b_U_route 120 = .ok (.iinc 7 1, 3) := by decide +kernel
theorem d_U_route_123 : decode b_U_route 123 = .ok (.goto (-52), 3) := by decide +kernel
theorem d_U_route_126 : decode b_U_route 126 = .ok (.iconst 0, 1) := by decide +kernel
theorem d_U_route_127 : decode b_U_route 127 = .ok (.istore 7, 2) := by decide +kernel
theorem d_U_route_129 : decode b_U_route 129 = .ok (.iload 7, 2) := by decide +kernel
theorem d_U_route_131 : decode b_U_route 131 = .ok (.bipush 6, 2) := by decide +kernel
theorem d_U_route_133 : decode b_U_route 133 = .ok (.if_icmp .ge 58, 3) := by decide +kernel
theorem d_U_route_136 : decode b_U_route 136 = .ok (.iload 6, 2) := by decide +kernel
theorem d_U_route_138 : decode b_U_route 138 = .ok (.ifCond .lt 47, 3) := by decide +kernel
theorem d_U_route_141 : decode b_U_route 141 = .ok (.aload_n 0, 1) := by decide +kernel
theorem d_U_route_142 : decode b_U_route 142 = .ok (.getfield 29, 3) := by decide +kernel
theorem d_U_route_145 : decode b_U_route 145 = .ok (.iload 7, 2) := by decide +kernel
theorem d_U_route_147 : decode b_U_route 147 = .ok (.baload, 1) := by decide +kernel
theorem d_U_route_148 : decode b_U_route 148 = .ok (.ifCond .eq 37, 3) := by decide +kernel
theorem d_U_route_151 : decode b_U_route 151 = .ok (.aload_n 0, 1) := by decide +kernel
theorem d_U_route_152 : decode b_U_route 152 = .ok (.getfield 23, 3) := by decide +kernel
theorem d_U_route_155 : decode b_U_route 155 = .ok (.iload 7, 2) := by decide +kernel
theorem d_U_route_157 : decode b_U_route 157 = .ok (.iaload, 1) := by decide +kernel
theorem d_U_route_158 : decode b_U_route 158 = .ok (.iload_n 1, 1) := by decide +kernel
theorem d_U_route_159 : decode b_U_route 159 = .ok (.if_icmp .ne 26, 3) := by decide +kernel
theorem d_U_route_162 : decode b_U_route 162 = .ok (.aload_n 0, 1) := by decide +kernel
theorem d_U_route_163 : decode b_U_route 163 = .ok (.getfield 32, 3) := by decide +kernel
theorem d_U_route_166 : decode b_U_route 166 = .ok (.iload 7, 2) := by decide +kernel
theorem d_U_route_168 : decode b_U_route 168 = .ok (.iaload, 1) := by decide +kernel
theorem d_U_route_169 : decode b_U_route 169 = .ok (.iload 6, 2) := by decide +kernel
theorem d_U_route_171 : decode b_U_route 171 = .ok (.if_icmp .ne 14, 3) := by decide +kernel
theorem d_U_route_174 : decode b_U_route 174 = .ok (.aload_n 0, 1) := by decide +kernel
theorem d_U_route_175 : decode b_U_route 175 = .ok (.iload 7, 2) := by decide +kernel
theorem d_U_route_177 : decode b_U_route 177 = .ok (.iconst 1, 1) := by decide +kernel
theorem d_U_route_178 : decode b_U_route 178 = .ok (.iload_n 2, 1) := by decide +kernel
theorem d_U_route_179 : decode b_U_route 179 = .ok (.iload_n 3, 1) := by decide +kernel
theorem d_U_route_180 : decode b_U_route 180 = .ok (.iload 4, 2) := by decide +kernel
theorem d_U_route_182 : decode b_U_route 182 = .ok (.invokevirtual 98, 3) := by decide +kernel
theorem d_U_route_185 : decode b_U_route 185 = .ok (.iinc 7 1, 3) := by decide +kernel
theorem d_U_route_188 : decode b_U_route 188 = .ok (.goto (-59), 3) := by decide +kernel
theorem d_U_route_191 : decode b_U_route 191 = .ok (.iload 6, 2) := by decide +kernel
theorem d_U_route_193 : decode b_U_route 193 = .ok (.ifCond .lt 5, 3) := by decide +kernel
theorem d_U_route_196 : decode b_U_route 196 = .ok (.iconst 0, 1) := by decide +kernel
theorem d_U_route_197 : decode b_U_route 197 = .ok (.ireturn, 1) := by decide +kernel
theorem d_U_route_198 : decode b_U_route 198 = .ok (.aload_n 0, 1) := by decide +kernel
theorem d_U_route_199 : decode b_U_route 199 = .ok (.getfield 7, 3) := by decide +kernel
theorem d_U_route_202 : decode b_U_route 202 = .ok (.iload_n 1, 1) := by decide +kernel
theorem d_U_route_203 : decode b_U_route 203 = .ok (.baload, 1) := by decide +kernel
theorem d_U_route_204 : decode b_U_route 204 = .ok (.ifCond .eq 13, 3) := by decide +kernel
theorem d_U_route_207 : decode b_U_route 207 = .ok (.aload_n 0, 1) := by decide +kernel
theorem d_U_route_208 : decode b_U_route 208 = .ok (.getfield 62, 3) := by decide +kernel
theorem d_U_route_211 : decode b_U_route 211 = .ok (.iload_n 1, 1) := by decide +kernel
theorem d_U_route_212 : decode b_U_route 212 = .ok (.iaload, 1) := by decide +kernel
theorem d_U_route_213 : decode b_U_route 213 = .ok (.iconst 4, 1) := by decide +kernel
theorem d_U_route_214 : decode b_U_route 214 = .ok (.if_icmp .ne 6, 3) := by decide +kernel
theorem d_U_route_217 : decode b_U_route 217 = .ok (.bipush 8, 2) := by decide +kernel
theorem d_U_route_219 : decode b_U_route 219 = .ok (.ireturn, 1) := by decide +kernel
theorem d_U_route_220 : decode b_U_route 220 = .ok (.iconst 4, 1) := by decide +kernel
theorem d_U_route_221 : decode b_U_route 221 = .ok (.iload_n 1, 1) := by decide +kernel
theorem d_U_route_222 : decode b_U_route 222 = .ok (.imul, 1) := by decide +kernel
theorem d_U_route_223 : decode b_U_route 223 = .ok (.aload_n 0, 1) := by decide +kernel
theorem d_U_route_224 : decode b_U_route 224 = .ok (.getfield 62, 3) := by decide +kernel
theorem d_U_route_227 : decode b_U_route 227 = .ok (.iload_n 1, 1) := by decide +kernel
theorem d_U_route_228 : decode b_U_route 228 = .ok (.iaload, 1) := by decide +kernel
theorem d_U_route_229 : decode b_U_route 229 = .ok (.iadd, 1) := by decide +kernel
theorem d_U_route_230 : decode b_U_route 230 = .ok (.istore 7, 2) := by decide +kernel
theorem d_U_route_232 : decode b_U_route 232 = .ok (.aload_n 0, 1) := by decide +kernel
theorem d_U_route_233 : decode b_U_route 233 = .ok (.getfield 53, 3) := by decide +kernel
theorem d_U_route_236 : decode b_U_route 236 = .ok (.iload 7, 2) := by decide +kernel
theorem d_U_route_238 : decode b_U_route 238 = .ok (.iload_n 2, 1) := by decide +kernel
theorem d_U_route_239 : decode b_U_route 239 = .ok (.iastore, 1) := by decide +kernel
theorem d_U_route_240 : decode b_U_route 240 = .ok (.aload_n 0, 1) := by decide +kernel
theorem d_U_route_241 : decode b_U_route 241 = .ok (.getfield 56, 3) := by decide +kernel
theorem d_U_route_244 : decode b_U_route 244 = .ok (.iload 7, 2) := by decide +kernel
theorem d_U_route_246 : decode b_U_route 246 = .ok (.iload_n 3, 1) := by decide +kernel
theorem d_U_route_247 : decode b_U_route 247 = .ok (.iastore, 1) := by decide +kernel
theorem d_U_route_248 : decode b_U_route 248 = .ok (.aload_n 0, 1) := by decide +kernel
theorem d_U_route_249 : decode b_U_route 249 = .ok (.getfield 59, 3) := by decide +kernel
theorem d_U_route_252 : decode b_U_route 252 = .ok (.iload 7, 2) := by decide +kernel
theorem d_U_route_254 : decode b_U_route 254 = .ok (.iload 4, 2) := by decide +kernel
theorem d_U_route_256 : decode b_U_route 256 = .ok (.iastore, 1) := by decide +kernel
theorem d_U_route_257 : decode b_U_route 257 = .ok (.aload_n 0, 1) := by decide +kernel
theorem d_U_route_258 : decode b_U_route 258 = .ok (.getfield 62, 3) := by decide +kernel
theorem d_U_route_261 : decode b_U_route 261 = .ok (.iload_n 1, 1) := by decide +kernel
theorem d_U_route_262 : decode b_U_route 262 = .ok (.dup2, 1) := by decide +kernel
theorem d_U_route_263 : decode b_U_route 263 = .ok (.iaload, 1) := by decide +kernel
theorem d_U_route_264 : decode b_U_route 264 = .ok (.iconst 1, 1) := by decide +kernel
theorem d_U_route_265 : decode b_U_route 265 = .ok (.iadd, 1) := by decide +kernel
theorem d_U_route_266 : decode b_U_route 266 = .ok (.iastore, 1) := by decide +kernel
theorem d_U_route_267 : decode b_U_route 267 = .ok (.iconst 0, 1) := by decide +kernel
theorem d_U_route_268 : decode b_U_route 268 = .ok (.ireturn, 1) := by decide +kernel
theorem d_U_end_0 : decode b_U_end 0 = .ok (.aload_n 0, 1) := by decide +kernel
theorem d_U_end_1 : decode b_U_end 1 = .ok (.iload_n 1, 1) := by decide +kernel
theorem d_U_end_2 : decode b_U_end 2 = .ok (.iload_n 2, 1) := by decide +kernel
theorem d_U_end_3 : decode b_U_end 3 = .ok (.iload 4, 2) := by decide +kernel
theorem d_U_end_5 : decode b_U_end 5 = .ok (.invokevirtual 102, 3) := by decide +kernel
theorem d_U_end_8 : decode b_U_end 8 = .ok (.ifCond .ne 4, 3) := by decide +kernel
theorem d_U_end_11 : decode b_U_end 11 = .ok (.return_, 1) := by decide +kernel
theorem d_U_end_12 : decode b_U_end 12 = .ok (.aload_n 0, 1) := by decide +kernel
theorem d_U_end_13 : decode b_U_end 13 = .ok (.iload_n 1, 1) := by decide +kernel
theorem d_U_end_14 : decode b_U_end 14 = .ok (.iload_n 2, 1) := by decide +kernel
theorem d_U_end_15 : decode b_U_end 15 = .ok (.iload 4, 2) := by decide +kernel
theorem d_U_end_17 : decode b_U_end 17 = .ok (.invokevirtual 105, 3) := by decide +kernel
theorem d_U_end_20 : decode b_U_end 20 = .ok (.aload_n 0, 1) := by decide +kernel
theorem d_U_end_21 : decode b_U_end 21 = .ok (.iload_n 1, 1) := by decide +kernel
theorem d_U_end_22 : decode b_U_end 22 = .ok (.iload_n 3, 1) := by decide +kernel
theorem d_U_end_23 : decode b_U_end 23 = .ok (.iload_n 2, 1) := by decide +kernel
theorem d_U_end_24 : decode b_U_end 24 = .ok (.iconst (-1), 1) := by decide +kernel
theorem d_U_end_25 : decode b_U_end 25 = .ok (.iconst 0, 1) := by decide +kernel
theorem d_U_end_26 : decode b_U_end 26 = .ok (.invokevirtual 109, 3) := by decide +kernel
theorem d_U_end_29 : decode b_U_end 29 = .ok (.return_, 1) := by decide +kernel
theorem d_U_arrive_0 : decode b_U_arrive 0 = .ok (.aload_n 0, 1) := by decide +kernel
theorem d_U_arrive_1 : decode b_U_arrive 1 = .ok (.iconst 0, 1) := by decide +kernel
theorem d_U_arrive_2 : decode b_U_arrive 2 = .ok (.putfield 112, 3) := by decide +kernel
theorem d_U_arrive_5 : decode b_U_arrive 5 = .ok (.iload_n 1, 1) := by decide +kernel
theorem d_U_arrive_6 : decode b_U_arrive 6 = .ok (.tableswitch 194 1 7 #[42, 61, 61, 85, 132, 171, 183], 42) := by decide +kernel
theorem d_U_arrive_48 : decode b_U_arrive 48 = .ok (.aload_n 0, 1) := by decide +kernel
theorem d_U_arrive_49 : decode b_U_arrive 49 = .ok (.aload_n 0, 1) := by decide +kernel
theorem d_U_arrive_50 : decode b_U_arrive 50 = .ok (.iload_n 3, 1) := by decide +kernel
theorem d_U_arrive_51 : decode b_U_arrive 51 = .ok (.iload_n 2, 1) := by decide +kernel
theorem d_U_arrive_52 : decode b_U_arrive 52 = .ok (.iload 4, 2) := by decide +kernel
theorem d_U_arrive_54 : decode b_U_arrive 54 = .ok (.iload 5, 2) := by decide +kernel
theorem d_U_arrive_56 : decode b_U_arrive 56 = .ok (.iload 6, 2) := by decide +kernel
theorem d_U_arrive_58 : decode b_U_arrive 58 = .ok (.invokevirtual 115, 3) := by decide +kernel
theorem d_U_arrive_61 : decode b_U_arrive 61 = .ok (.putfield 112, 3) := by decide +kernel
theorem d_U_arrive_64 : decode b_U_arrive 64 = .ok (.goto 146, 3) := by decide +kernel
theorem d_U_arrive_67 : decode b_U_arrive 67 = .ok (.aload_n 0, 1) := by decide +kernel
theorem d_U_arrive_68 : decode b_U_arrive 68 = .ok (.iload_n 3, 1) := by decide +kernel
theorem d_U_arrive_69 : decode b_U_arrive 69 = .ok (.iload_n 2, 1) := by decide +kernel
theorem d_U_arrive_70 : decode b_U_arrive 70 = .ok (.iconst 1, 1) := by decide +kernel
theorem d_U_arrive_71 : decode b_U_arrive 71 = .ok (.invokevirtual 102, 3) := by decide +kernel
theorem d_U_arrive_74 : decode b_U_arrive 74 = .ok (.ifCond .eq 136, 3) := by decide +kernel
theorem d_U_arrive_77 : decode b_U_arrive 77 = .ok (.aload_n 0, 1) := by decide +kernel
theorem d_U_arrive_78 : decode b_U_arrive 78 = .ok (.iload_n 3, 1) := by decide +kernel
theorem d_U_arrive_79 : decode b_U_arrive 79 = .ok (.iload_n 1, 1) := by decide +kernel
theorem d_U_arrive_80 : decode b_U_arrive 80 = .ok (.iload_n 2, 1) := by decide +kernel
theorem d_U_arrive_81 : decode b_U_arrive 81 = .ok (.iload 4, 2) := by decide +kernel
theorem d_U_arrive_83 : decode b_U_arrive 83 = .ok (.iload 5, 2) := by decide +kernel
theorem d_U_arrive_85 : decode b_U_arrive 85 = .ok (.invokevirtual 109, 3) := by decide +kernel
theorem d_U_arrive_88 : decode b_U_arrive 88 = .ok (.goto 122, 3) := by decide +kernel
theorem d_U_arrive_91 : decode b_U_arrive 91 = .ok (.aload_n 0, 1) := by decide +kernel
theorem d_U_arrive_92 : decode b_U_arrive 92 = .ok (.iload_n 3, 1) := by decide +kernel
theorem d_U_arrive_93 : decode b_U_arrive 93 = .ok (.iload_n 2, 1) := by decide +kernel
theorem d_U_arrive_94 : decode b_U_arrive 94 = .ok (.iconst 2, 1) := by decide +kernel
theorem d_U_arrive_95 : decode b_U_arrive 95 = .ok (.invokevirtual 102, 3) := by decide +kernel
theorem d_U_arrive_98 : decode b_U_arrive 98 = .ok (.ifCond .eq 11, 3) := by decide +kernel
theorem d_U_arrive_101 : decode b_U_arrive 101 = .ok (.aload_n 0, 1) := by decide +kernel
theorem d_U_arrive_102 : decode b_U_arrive 102 = .ok (.iconst 5, 1) := by decide +kernel
theorem d_U_arrive_103 : decode b_U_arrive 103 = .ok (.putfield 112, 3) := by decide +kernel
theorem d_U_arrive_106 : decode b_U_arrive 106 = .ok (.goto 104, 3) := by decide +kernel
theorem d_U_arrive_109 : decode b_U_arrive 109 = .ok (.aload_n 0, 1) := by decide +kernel
theorem d_U_arrive_110 : decode b_U_arrive 110 = .ok (.getfield 7, 3) := by decide +kernel
theorem d_U_arrive_113 : decode b_U_arrive 113 = .ok (.iload_n 3, 1) := by decide +kernel
theorem d_U_arrive_114 : decode b_U_arrive 114 = .ok (.baload, 1) := by decide +kernel
theorem d_U_arrive_115 : decode b_U_arrive 115 = .ok (.ifCond .eq 95, 3) := by decide +kernel
theorem d_U_arrive_118 : decode b_U_arrive 118 = .ok (.aload_n 0, 1) := by decide +kernel
theorem d_U_arrive_119 : decode b_U_arrive 119 = .ok (.iload_n 3, 1) := by decide +kernel
theorem d_U_arrive_120 : decode b_U_arrive 120 = .ok (.iload_n 2, 1) := by decide +kernel
theorem d_U_arrive_121 : decode b_U_arrive 121 = .ok (.bipush 8, 2) := by decide +kernel
theorem d_U_arrive_123 : decode b_U_arrive 123 = .ok (.invokevirtual 119, 3) := by decide +kernel
theorem d_U_arrive_126 : decode b_U_arrive 126 = .ok (.aload_n 0, 1) := by decide +kernel
theorem d_U_arrive_127 : decode b_U_arrive 127 = .ok (.iload_n 3, 1) := by decide +kernel
theorem d_U_arrive_128 : decode b_U_arrive 128 = .ok (.iload_n 1, 1) := by decide +kernel
theorem d_U_arrive_129 : decode b_U_arrive 129 = .ok (.iload_n 2, 1) := by decide +kernel
theorem d_U_arrive_130 : decode b_U_arrive 130 = .ok (.iconst (-1), 1) := by decide +kernel
theorem d_U_arrive_131 : decode b_U_arrive 131 = .ok (.iconst 0, 1) := by decide +kernel
theorem d_U_arrive_132 : decode b_U_arrive 132 = .ok (.invokevirtual 109, 3) := by decide +kernel
theorem d_U_arrive_135 : decode b_U_arrive 135 = .ok (.goto 75, 3) := by decide +kernel
theorem d_U_arrive_138 : decode b_U_arrive 138 = .ok (.aload_n 0, 1) := by decide +kernel
theorem d_U_arrive_139 : decode b_U_arrive 139 = .ok (.iload_n 3, 1) := by decide +kernel
theorem d_U_arrive_140 : decode b_U_arrive 140 = .ok (.iload_n 2, 1) := by decide +kernel
theorem d_U_arrive_141 : decode b_U_arrive 141 = .ok (.iconst 4, 1) := by decide +kernel
theorem d_U_arrive_142 : decode b_U_arrive 142 = .ok (.invokevirtual 102, 3) := by decide +kernel
theorem d_U_arrive_145 : decode b_U_arrive 145 = .ok (.ifCond .ne 6, 3) := by decide +kernel
theorem d_U_arrive_148 : decode b_U_arrive 148 = .ok (.goto 62, 3) := by decide +kernel
theorem d_U_arrive_151 : decode b_U_arrive 151 = .ok (.aload_n 0, 1) := by decide +kernel
theorem d_U_arrive_152 : decode b_U_arrive 152 = .ok (.iload_n 3, 1) := by decide +kernel
theorem d_U_arrive_153 : decode b_U_arrive 153 = .ok (.iload_n 2, 1) := by decide +kernel
theorem d_U_arrive_154 : decode b_U_arrive 154 = .ok (.iconst 4, 1) := by decide +kernel
theorem d_U_arrive_155 : decode b_U_arrive 155 = .ok (.invokevirtual 105, 3) := by decide +kernel
theorem d_U_arrive_158 : decode b_U_arrive 158 = .ok (.aload_n 0, 1) := by decide +kernel
theorem d_U_arrive_159 : decode b_U_arrive 159 = .ok (.iload_n 3, 1) := by decide +kernel
theorem d_U_arrive_160 : decode b_U_arrive 160 = .ok (.iload_n 2, 1) := by decide +kernel
theorem d_U_arrive_161 : decode b_U_arrive 161 = .ok (.iconst 1, 1) := by decide +kernel
theorem d_U_arrive_162 : decode b_U_arrive 162 = .ok (.invokevirtual 119, 3) := by decide +kernel
theorem d_U_arrive_165 : decode b_U_arrive 165 = .ok (.aload_n 0, 1) := by decide +kernel
theorem d_U_arrive_166 : decode b_U_arrive 166 = .ok (.iload_n 3, 1) := by decide +kernel
theorem d_U_arrive_167 : decode b_U_arrive 167 = .ok (.iload_n 1, 1) := by decide +kernel
theorem d_U_arrive_168 : decode b_U_arrive 168 = .ok (.iload_n 2, 1) := by decide +kernel
theorem d_U_arrive_169 : decode b_U_arrive 169 = .ok (.iconst (-1), 1) := by decide +kernel
theorem d_U_arrive_170 : decode b_U_arrive 170 = .ok (.iconst 0, 1) := by decide +kernel
theorem d_U_arrive_171 : decode b_U_arrive 171 = .ok (.invokevirtual 109, 3) := by decide +kernel
theorem d_U_arrive_174 : decode b_U_arrive 174 = .ok (.goto 36, 3) := by decide +kernel
theorem d_U_arrive_177 : decode b_U_arrive 177 = .ok (.aload_n 0, 1) := by decide +kernel
theorem d_U_arrive_178 : decode b_U_arrive 178 = .ok (.iload_n 3, 1) := by decide +kernel
theorem d_U_arrive_179 : decode b_U_arrive 179 = .ok (.iload_n 2, 1) := by decide +kernel
theorem d_U_arrive_180 : decode b_U_arrive 180 = .ok (.iload_n 1, 1) := by decide +kernel
theorem d_U_arrive_181 : decode b_U_arrive 181 = .ok (.bipush 10, 2) := by decide +kernel
theorem d_U_arrive_183 : decode b_U_arrive 183 = .ok (.invokevirtual 122, 3) := by decide +kernel
theorem d_U_arrive_186 : decode b_U_arrive 186 = .ok (.goto 24, 3) := by decide +kernel
theorem d_U_arrive_189 : decode b_U_arrive 189 = .ok (.aload_n 0, 1) := by decide +kernel
theorem d_U_arrive_190 : decode b_U_arrive 190 = .ok (.iload_n 3, 1) := by decide +kernel
theorem d_U_arrive_191 : decode b_U_arrive 191 = .ok (.iload_n 2, 1) := by decide +kernel
theorem d_U_arrive_192 : decode b_U_arrive 192 = .ok (.iload_n 1, 1) := by decide +kernel
theorem d_U_arrive_193 : decode b_U_arrive 193 = .ok (.iconst 5, 1) := by decide +kernel
theorem d_U_arrive_194 : decode b_U_arrive 194 = .ok (.invokevirtual 122, 3) := by decide +kernel
theorem d_U_arrive_197 : decode b_U_arrive 197 = .ok (.goto 13, 3) := by decide +kernel
theorem d_U_arrive_200 : decode b_U_arrive 200 = .ok (.aload_n 0, 1) := by decide +kernel
theorem d_U_arrive_201 : decode b_U_arrive 201 = .ok (.iload_n 3, 1) := by decide +kernel
theorem d_U_arrive_202 : decode b_U_arrive 202 = .ok (.iload_n 1, 1) := by decide +kernel
theorem d_U_arrive_203 : decode b_U_arrive 203 = .ok (.iload_n 2, 1) := by decide +kernel
theorem d_U_arrive_204 : decode b_U_arrive 204 = .ok (.iconst (-1), 1) := by decide +kernel
theorem d_U_arrive_205 : decode b_U_arrive 205 = .ok (.iload 5, 2) := by decide +kernel
theorem d_U_arrive_207 : decode b_U_arrive 207 = .ok (.invokevirtual 109, 3) := by decide +kernel
theorem d_U_arrive_210 : decode b_U_arrive 210 = .ok (.return_, 1) := by decide +kernel
theorem d_U_hold_0 : decode b_U_hold 0 = .ok (.aload_n 0, 1) := by decide +kernel
theorem d_U_hold_1 : decode b_U_hold 1 = .ok (.getfield 126, 3) := by decide +kernel
theorem d_U_hold_4 : decode b_U_hold 4 = .ok (.bipush 8, 2) := by decide +kernel
theorem d_U_hold_6 : decode b_U_hold 6 = .ok (.if_icmp .ne 20, 3) := by decide +kernel
theorem d_U_hold_9 : decode b_U_hold 9 = .ok (.iload_n 1, 1) := by decide +kernel
theorem d_U_hold_10 : decode b_U_hold 10 = .ok (.iconst 1, 1) := by decide +kernel
theorem d_U_hold_11 : decode b_U_hold 11 = .ok (.if_icmp .ne 14, 3) := by decide +kernel
theorem d_U_hold_14 : decode b_U_hold 14 = .ok (.aload_n 0, 1) := by decide +kernel
theorem d_U_hold_15 : decode b_U_hold 15 = .ok (.iload_n 2, 1) := by decide +kernel
theorem d_U_hold_16 : decode b_U_hold 16 = .ok (.bipush 8, 2) := by decide +kernel
theorem d_U_hold_18 : decode b_U_hold 18 = .ok (.iload_n 3, 1) := by decide +kernel
theorem d_U_hold_19 : decode b_U_hold 19 = .ok (.iconst (-1), 1) := by decide +kernel
theorem d_U_hold_20 : decode b_U_hold 20 = .ok (.iload 5, 2) := by decide +kernel
theorem d_U_hold_22 : decode b_U_hold 22 = .ok (.invokevirtual 109, 3) := by decide +kernel
theorem d_U_hold_25 : decode b_U_hold 25 = .ok (.return_, 1) := by decide +kernel
theorem d_U_hold_26 : decode b_U_hold 26 = .ok (.aload_n 0, 1) := by decide +kernel
theorem d_U_hold_27 : decode b_U_hold 27 = .ok (.getfield 65, 3) := by decide +kernel
theorem d_U_hold_30 : decode b_U_hold 30 = .ok (.aload_n 0, 1) := by decide +kernel
theorem d_U_hold_31 : decode b_U_hold 31 = .ok (.getfield 126, 3) := by decide +kernel
theorem d_U_hold_34 : decode b_U_hold 34 = .ok (.iload_n 1, 1) := by decide +kernel
theorem d_U_hold_35 : decode b_U_hold 35 = .ok (.iastore, 1) := by decide +kernel
theorem d_U_hold_36 : decode b_U_hold 36 = .ok (.aload_n 0, 1) := by decide +kernel
theorem d_U_hold_37 : decode b_U_hold 37 = .ok (.getfield 68, 3) := by decide +kernel
theorem d_U_hold_40 : decode b_U_hold 40 = .ok (.aload_n 0, 1) := by decide +kernel
theorem d_U_hold_41 : decode b_U_hold 41 = .ok (.getfield 126, 3) := by decide +kernel
theorem d_U_hold_44 : decode b_U_hold 44 = .ok (.iload_n 2, 1) := by decide +kernel
theorem d_U_hold_45 : decode b_U_hold 45 = .ok (.iastore, 1) := by decide +kernel
theorem d_U_hold_46 : decode b_U_hold 46 = .ok (.aload_n 0, 1) := by decide +kernel
theorem d_U_hold_47 : decode b_U_hold 47 = .ok (.getfield 71, 3) := by decide +kernel
