theorem dX9_readVote_137 : decode cX9_readVote 137 = .ok (.iconst 0, 1) := by decide +kernel
theorem dX9_readVote_138 : decode cX9_readVote 138 = .ok (.bipush 8, 2) := by decide +kernel
theorem dX9_readVote_140 : decode cX9_readVote 140 = .ok (.invokevirtual 128, 3) := by decide +kernel
theorem dX9_readVote_143 : decode cX9_readVote 143 = .ok (.iastore, 1) := by decide +kernel
theorem dX9_readVote_144 : decode cX9_readVote 144 = .ok (.aload_n 0, 1) := by decide +kernel
theorem dX9_readVote_145 : decode cX9_readVote 145 = .ok (.getfield 17, 3) := by decide +kernel
theorem dX9_readVote_148 : decode cX9_readVote 148 = .ok (.bipush 37, 2) := by decide +kernel
theorem dX9_readVote_150 : decode cX9_readVote 150 = .ok (.iload_n 1, 1) := by decide +kernel
theorem dX9_readVote_151 : decode cX9_readVote 151 = .ok (.iconst 1, 1) := by decide +kernel
theorem dX9_readVote_152 : decode cX9_readVote 152 = .ok (.iadd, 1) := by decide +kernel
theorem dX9_readVote_153 : decode cX9_readVote 153 = .ok (.iastore, 1) := by decide +kernel
theorem dX9_readVote_154 : decode cX9_readVote 154 = .ok (.return_, 1) := by decide +kernel
theorem dX9_readLine_0 : decode cX9_readLine 0 = .ok (.aload_n 0, 1) := by decide +kernel
theorem dX9_readLine_1 : decode cX9_readLine 1 = .ok (.getfield 99, 3) := by decide +kernel
theorem dX9_readLine_4 : decode cX9_readLine 4 = .ok (.iconst 1, 1) := by decide +kernel
theorem dX9_readLine_5 : decode cX9_readLine 5 = .ok (.if_icmp .ne 10, 3) := by decide +kernel
theorem dX9_readLine_8 : decode cX9_readLine 8 = .ok (.aload_n 0, 1) := by decide +kernel
theorem dX9_readLine_9 : decode cX9_readLine 9 = .ok (.invokevirtual 131, 3) := by decide +kernel
theorem dX9_readLine_12 : decode cX9_readLine 12 = .ok (.goto 5, 3) := by decide +kernel
theorem dX9_readLine_15 : decode cX9_readLine 15 = .ok (.bipush (-4), 2) := by decide +kernel
theorem dX9_readLine_17 : decode cX9_readLine 17 = .ok (.istore_n 1, 1) := by decide +kernel
theorem dX9_readLine_18 : decode cX9_readLine 18 = .ok (.aload_n 0, 1) := by decide +kernel
theorem dX9_readLine_19 : decode cX9_readLine 19 = .ok (.iload_n 1, 1) := by decide +kernel
theorem dX9_readLine_20 : decode cX9_readLine 20 = .ok (.bipush (-4), 2) := by decide +kernel
theorem dX9_readLine_22 : decode cX9_readLine 22 = .ok (.if_icmp .eq 7, 3) := by decide +kernel
theorem dX9_readLine_25 : decode cX9_readLine 25 = .ok (.iconst 1, 1) := by decide +kernel
theorem dX9_readLine_26 : decode cX9_readLine 26 = .ok (.goto 4, 3) := by decide +kernel
theorem dX9_readLine_29 : decode cX9_readLine 29 = .ok (.iconst 0, 1) := by decide +kernel
theorem dX9_readLine_30 : decode cX9_readLine 30 = .ok (.iconst 2, 1) := by decide +kernel
theorem dX9_readLine_31 : decode cX9_readLine 31 = .ok (.invokevirtual 113, 3) := by decide +kernel
theorem dX9_readLine_34 : decode cX9_readLine 34 = .ok (.aload_n 0, 1) := by decide +kernel
theorem dX9_readLine_35 : decode cX9_readLine 35 = .ok (.iload_n 1, 1) := by decide +kernel
theorem dX9_readLine_36 : decode cX9_readLine 36 = .ok (.ifCond .ne 14, 3) := by decide +kernel
theorem dX9_readLine_39 : decode cX9_readLine 39 = .ok (.aload_n 0, 1) := by decide +kernel
theorem dX9_readLine_40 : decode cX9_readLine 40 = .ok (.getfield 17, 3) := by decide +kernel
theorem dX9_readLine_43 : decode cX9_readLine 43 = .ok (.iconst 0, 1) := by decide +kernel
theorem dX9_readLine_44 : decode cX9_readLine 44 = .ok (.iaload, 1) := by decide +kernel
theorem dX9_readLine_45 : decode cX9_readLine 45 = .ok (.bipush 6, 2) := by decide +kernel
theorem dX9_readLine_47 : decode cX9_readLine 47 = .ok (.if_icmp .ge 24, 3) := by decide +kernel
theorem dX9_readLine_50 : decode cX9_readLine 50 = .ok (.iload_n 1, 1) := by decide +kernel
theorem dX9_readLine_51 : decode cX9_readLine 51 = .ok (.iconst 3, 1) := by decide +kernel
theorem dX9_readLine_52 : decode cX9_readLine 52 = .ok (.if_icmp .ne 15, 3) := by decide +kernel
theorem dX9_readLine_55 : decode cX9_readLine 55 = .ok (.aload_n 0, 1) := by decide +kernel
theorem dX9_readLine_56 : decode cX9_readLine 56 = .ok (.getfield 17, 3) := by decide +kernel
theorem dX9_readLine_59 : decode cX9_readLine 59 = .ok (.bipush 37, 2) := by decide +kernel
theorem dX9_readLine_61 : decode cX9_readLine 61 = .ok (.iaload, 1) := by decide +kernel
theorem dX9_readLine_62 : decode cX9_readLine 62 = .ok (.bipush 6, 2) := by decide +kernel
theorem dX9_readLine_64 : decode cX9_readLine 64 = .ok (.if_icmp .ge 7, 3) := by decide +kernel
theorem dX9_readLine_67 : decode cX9_readLine 67 = .ok (.iconst 1, 1) := by decide +kernel
theorem dX9_readLine_68 : decode cX9_readLine 68 = .ok (.goto 4, 3) := by decide +kernel
theorem dX9_readLine_71 : decode cX9_readLine 71 = .ok (.iconst 0, 1) := by decide +kernel
theorem dX9_readLine_72 : decode cX9_readLine 72 = .ok (.iconst 5, 1) := by decide +kernel
theorem dX9_readLine_73 : decode cX9_readLine 73 = .ok (.invokevirtual 113, 3) := by decide +kernel
theorem dX9_readLine_76 : decode cX9_readLine 76 = .ok (.aload_n 0, 1) := by decide +kernel
theorem dX9_readLine_77 : decode cX9_readLine 77 = .ok (.iload_n 1, 1) := by decide +kernel
theorem dX9_readLine_78 : decode cX9_readLine 78 = .ok (.iconst 1, 1) := by decide +kernel
theorem dX9_readLine_79 : decode cX9_readLine 79 = .ok (.if_icmp .ne 10, 3) := by decide +kernel
theorem dX9_readLine_82 : decode cX9_readLine 82 = .ok (.aload_n 0, 1) := by decide +kernel
theorem dX9_readLine_83 : decode cX9_readLine 83 = .ok (.getfield 57, 3) := by decide +kernel
theorem dX9_readLine_86 : decode cX9_readLine 86 = .ok (.ifCond .ne 19, 3) := by decide +kernel
theorem dX9_readLine_89 : decode cX9_readLine 89 = .ok (.iload_n 1, 1) := by decide +kernel
theorem dX9_readLine_90 : decode cX9_readLine 90 = .ok (.iconst 2, 1) := by decide +kernel
theorem dX9_readLine_91 : decode cX9_readLine 91 = .ok (.if_icmp .ne 10, 3) := by decide +kernel
theorem dX9_readLine_94 : decode cX9_readLine 94 = .ok (.aload_n 0, 1) := by decide +kernel
theorem dX9_readLine_95 : decode cX9_readLine 95 = .ok (.getfield 53, 3) := by decide +kernel
theorem dX9_readLine_98 : decode cX9_readLine 98 = .ok (.ifCond .ne 7, 3) := by decide +kernel
theorem dX9_readLine_101 : decode cX9_readLine 101 = .ok (.iconst 1, 1) := by decide +kernel
theorem dX9_readLine_102 : decode cX9_readLine 102 = .ok (.goto 4, 3) := by decide +kernel
theorem dX9_readLine_105 : decode cX9_readLine 105 = .ok (.iconst 0, 1) := by decide +kernel
theorem dX9_readLine_106 : decode cX9_readLine 106 = .ok (.iconst 4, 1) := by decide +kernel
theorem dX9_readLine_107 : decode cX9_readLine 107 = .ok (.invokevirtual 113, 3) := by decide +kernel
theorem dX9_readLine_110 : decode cX9_readLine 110 = .ok (.aload_n 0, 1) := by decide +kernel
theorem dX9_readLine_111 : decode cX9_readLine 111 = .ok (.invokevirtual 121, 3) := by decide +kernel
theorem dX9_readLine_114 : decode cX9_readLine 114 = .ok (.aload_n 0, 1) := by decide +kernel
theorem dX9_readLine_115 : decode cX9_readLine 115 = .ok (.getfield 75, 3) := by decide +kernel
theorem dX9_readLine_118 : decode cX9_readLine 118 = .ok (.ifCond .le 4, 3) := by decide +kernel
theorem dX9_readLine_121 : decode cX9_readLine 121 = .ok (.return_, 1) := by decide +kernel
theorem dX9_readLine_122 : decode cX9_readLine 122 = .ok (.iload_n 1, 1) := by decide +kernel
theorem dX9_readLine_123 : decode cX9_readLine 123 = .ok (.ifCond .ne 10, 3) := by decide +kernel
theorem dX9_readLine_126 : decode cX9_readLine 126 = .ok (.aload_n 0, 1) := by decide +kernel
theorem dX9_readLine_127 : decode cX9_readLine 127 = .ok (.invokevirtual 134, 3) := by decide +kernel
theorem dX9_readLine_130 : decode cX9_readLine 130 = .ok (.goto 93, 3) := by decide +kernel
theorem dX9_readLine_133 : decode cX9_readLine 133 = .ok (.iload_n 1, 1) := by decide +kernel
theorem dX9_readLine_134 : decode cX9_readLine 134 = .ok (.iconst 3, 1) := by decide +kernel
theorem dX9_readLine_135 : decode cX9_readLine 135 = .ok (.if_icmp .ne 10, 3) := by decide +kernel
theorem dX9_readLine_138 : decode cX9_readLine 138 = .ok (.aload_n 0, 1) := by decide +kernel
theorem dX9_readLine_139 : decode cX9_readLine 139 = .ok (.invokevirtual 137, 3) := by decide +kernel
theorem dX9_readLine_142 : decode cX9_readLine 142 = .ok (.goto 81, 3) := by decide +kernel
theorem dX9_readLine_145 : decode cX9_readLine 145 = .ok (.iload_n 1, 1) := by decide +kernel
theorem dX9_readLine_146 : decode cX9_readLine 146 = .ok (.iconst 2, 1) := by decide +kernel
theorem dX9_readLine_147 : decode cX9_readLine 147 = .ok (.if_icmp .ne 21, 3) := by decide +kernel
theorem dX9_readLine_150 : decode cX9_readLine 150 = .ok (.aload_n 0, 1) := by decide +kernel
theorem dX9_readLine_151 : decode cX9_readLine 151 = .ok (.iconst 1, 1) := by decide +kernel
theorem dX9_readLine_152 : decode cX9_readLine 152 = .ok (.putfield 53, 3) := by decide +kernel
theorem dX9_readLine_155 : decode cX9_readLine 155 = .ok (.aload_n 0, 1) := by decide +kernel
theorem dX9_readLine_156 : decode cX9_readLine 156 = .ok (.aload_n 0, 1) := by decide +kernel
theorem dX9_readLine_157 : decode cX9_readLine 157 = .ok (.iconst 0, 1) := by decide +kernel
theorem dX9_readLine_158 : decode cX9_readLine 158 = .ok (.iconst 3, 1) := by decide +kernel
theorem dX9_readLine_159 : decode cX9_readLine 159 = .ok (.invokevirtual 128, 3) := by decide +kernel
theorem dX9_readLine_162 : decode cX9_readLine 162 = .ok (.putfield 49, 3) := by decide +kernel
theorem dX9_readLine_165 : decode cX9_readLine 165 = .ok (.goto 58, 3) := by decide +kernel
theorem dX9_readLine_168 : decode cX9_readLine 168 = .ok (.aload_n 0, 1) := by decide +kernel
theorem dX9_readLine_169 : decode cX9_readLine 169 = .ok (.iconst 1, 1) := by decide +kernel
theorem dX9_readLine_170 : decode cX9_readLine 170 = .ok (.putfield 57, 3) := by decide +kernel
theorem dX9_readLine_173 : decode cX9_readLine 173 = .ok (.aload_n 0, 1) := by decide +kernel
theorem dX9_readLine_174 : decode cX9_readLine 174 = .ok (.getfield 17, 3) := by decide +kernel
theorem dX9_readLine_177 : decode cX9_readLine 177 = .ok (.bipush 68, 2) := by decide +kernel
theorem dX9_readLine_179 : decode cX9_readLine 179 = .ok (.aload_n 0, 1) := by decide +kernel
theorem dX9_readLine_180 : decode cX9_readLine 180 = .ok (.iconst 0, 1) := by decide +kernel
theorem dX9_readLine_181 : decode cX9_readLine 181 = .ok (.bipush 8, 2) := by decide +kernel
theorem dX9_readLine_183 : decode cX9_readLine 183 = .ok (.invokevirtual 128, 3) := by decide +kernel
theorem dX9_readLine_186 : decode cX9_readLine 186 = .ok (.iastore, 1) := by decide +kernel
theorem dX9_readLine_187 : decode cX9_readLine 187 = .ok (.aload_n 0, 1) := by decide +kernel
theorem dX9_readLine_188 : decode cX9_readLine 188 = .ok (.getfield 17, 3) := by decide +kernel
theorem dX9_readLine_191 : decode cX9_readLine 191 = .ok (.bipush 69, 2) := by decide +kernel
theorem dX9_readLine_193 : decode cX9_readLine 193 = .ok (.aload_n 0, 1) := by decide +kernel
theorem dX9_readLine_194 : decode cX9_readLine 194 = .ok (.iconst 0, 1) := by decide +kernel
theorem dX9_readLine_195 : decode cX9_readLine 195 = .ok (.sipush 365, 3) := by decide +kernel
theorem dX9_readLine_198 : decode cX9_readLine 198 = .ok (.invokevirtual 128, 3) := by decide +kernel
theorem dX9_readLine_201 : decode cX9_readLine 201 = .ok (.iastore, 1) := by decide +kernel
theorem dX9_readLine_202 : decode cX9_readLine 202 = .ok (.aload_n 0, 1) := by decide +kernel
theorem dX9_readLine_203 : decode cX9_readLine 203 = .ok (.getfield 17, 3) := by decide +kernel
theorem dX9_readLine_206 : decode cX9_readLine 206 = .ok (.bipush 70, 2) := by decide +kernel
theorem dX9_readLine_208 : decode cX9_readLine 208 = .ok (.aload_n 0, 1) := by decide +kernel
theorem dX9_readLine_209 : decode cX9_readLine 209 = .ok (.aload_n 0, 1) := by decide +kernel
theorem dX9_readLine_210 : decode cX9_readLine 210 = .ok (.getfield 17, 3) := by decide +kernel
theorem dX9_readLine_213 : decode cX9_readLine 213 = .ok (.bipush 69, 2) := by decide +kernel
theorem dX9_readLine_215 : decode cX9_readLine 215 = .ok (.iaload, 1) := by decide +kernel
theorem dX9_readLine_216 : decode cX9_readLine 216 = .ok (.sipush 365, 3) := by decide +kernel
theorem dX9_readLine_219 : decode cX9_readLine 219 = .ok (.invokevirtual 128, 3) := by decide +kernel
theorem dX9_readLine_222 : decode cX9_readLine 222 = .ok (.iastore, 1) := by decide +kernel
theorem dX9_readLine_223 : decode cX9_readLine 223 = .ok (.aload_n 0, 1) := by decide +kernel
theorem dX9_readLine_224 : decode cX9_readLine 224 = .ok (.getfield 75, 3) := by decide +kernel
theorem dX9_readLine_227 : decode cX9_readLine 227 = .ok (.ifCond .ne 21, 3) := by decide +kernel
theorem dX9_readLine_230 : decode cX9_readLine 230 = .ok (.aload_n 0, 1) := by decide +kernel
theorem dX9_readLine_231 : decode cX9_readLine 231 = .ok (.aload_n 0, 1) := by decide +kernel
theorem dX9_readLine_232 : decode cX9_readLine 232 = .ok (.getfield 99, 3) := by decide +kernel
theorem dX9_readLine_235 : decode cX9_readLine 235 = .ok (.iconst 3, 1) := by decide +kernel
theorem dX9_readLine_236 : decode cX9_readLine 236 = .ok (.if_icmp .ne 7, 3) := by decide +kernel
theorem dX9_readLine_239 : decode cX9_readLine 239 = .ok (.iconst 1, 1) := by decide +kernel
theorem dX9_readLine_240 : decode cX9_readLine 240 = .ok (.goto 4, 3) := by decide +kernel
theorem dX9_readLine_243 : decode cX9_readLine 243 = .ok (.iconst 0, 1) := by decide +kernel
theorem dX9_readLine_244 : decode cX9_readLine 244 = .ok (.iconst 2, 1) := by decide +kernel
theorem dX9_readLine_245 : decode cX9_readLine 245 = .ok (.invokevirtual 113, 3) := by decide +kernel
theorem dX9_readLine_248 : decode cX9_readLine 248 = .ok (.aload_n 0, 1) := by decide +kernel
theorem dX9_readLine_249 : decode cX9_readLine 249 = .ok (.invokevirtual 121, 3) := by decide +kernel
theorem dX9_readLine_252 : decode cX9_readLine 252 = .ok (.return_, 1) := by decide +kernel
theorem dX9_text_0 : decode cX9_text 0 = .ok (.iconst 0, 1) := by decide +kernel
theorem dX9_text_1 : decode cX9_text 1 = .ok (.istore_n 1, 1) := by decide +kernel
theorem dX9_text_2 : decode cX9_text 2 = .ok (.aload_n 0, 1) := by decide +kernel
theorem dX9_text_3 : decode cX9_text 3 = .ok (.iconst 0, 1) := by decide +kernel
theorem dX9_text_4 : decode cX9_text 4 = .ok (.putfield 75, 3) := by decide +kernel
theorem dX9_text_7 : decode cX9_text 7 = .ok (.aload_n 0, 1) := by decide +kernel
theorem dX9_text_8 : decode cX9_text 8 = .ok (.iconst 0, 1) := by decide +kernel
theorem dX9_text_9 : decode cX9_text 9 = .ok (.putfield 84, 3) := by decide +kernel
theorem dX9_text_12 : decode cX9_text 12 = .ok (.aload_n 0, 1) := by decide +kernel
theorem dX9_text_13 : decode cX9_text 13 = .ok (.invokevirtual 43, 3) := by decide +kernel
theorem dX9_text_16 : decode cX9_text 16 = .ok (.aload_n 0, 1) := by decide +kernel
theorem dX9_text_17 : decode cX9_text 17 = .ok (.invokevirtual 121, 3) := by decide +kernel
theorem dX9_text_20 : decode cX9_text 20 = .ok (.aload_n 0, 1) := by decide +kernel
theorem dX9_text_21 : decode cX9_text 21 = .ok (.getfield 75, 3) := by decide +kernel
theorem dX9_text_24 : decode cX9_text 24 = .ok (.ifCond .ne 20, 3) := by decide +kernel
theorem dX9_text_27 : decode cX9_text 27 = .ok (.aload_n 0, 1) := by decide +kernel
theorem dX9_text_28 : decode cX9_text 28 = .ok (.getfield 99, 3) := by decide +kernel
theorem dX9_text_31 : decode cX9_text 31 = .ok (.ifCond .eq 13, 3) := by decide +kernel
theorem dX9_text_34 : decode cX9_text 34 = .ok (.aload_n 0, 1) := by decide +kernel
theorem dX9_text_35 : decode cX9_text 35 = .ok (.invokevirtual 140, 3) := by decide +kernel
theorem dX9_text_38 : decode cX9_text 38 = .ok (.iinc 1 1, 3) := by decide +kernel
theorem dX9_text_41 : decode cX9_text 41 = .ok (.goto (-21), 3) := by decide +kernel
theorem dX9_text_44 : decode cX9_text 44 = .ok (.aload_n 0, 1) := by decide +kernel
theorem dX9_text_45 : decode cX9_text 45 = .ok (.getfield 75, 3) := by decide +kernel
theorem dX9_text_48 : decode cX9_text 48 = .ok (.ifCond .ne 27, 3) := by decide +kernel
theorem dX9_text_51 : decode cX9_text 51 = .ok (.aload_n 0, 1) := by decide +kernel
theorem dX9_text_52 : decode cX9_text 52 = .ok (.aload_n 0, 1) := by decide +kernel
theorem dX9_text_53 : decode cX9_text 53 = .ok (.getfield 60, 3) := by decide +kernel
theorem dX9_text_56 : decode cX9_text 56 = .ok (.aload_n 0, 1) := by decide +kernel
theorem dX9_text_57 : decode cX9_text 57 = .ok (.getfield 17, 3) := by decide +kernel
theorem dX9_text_60 : decode cX9_text 60 = .ok (.iconst 0, 1) := by decide +kernel
theorem dX9_text_61 : decode cX9_text 61 = .ok (.iaload, 1) := by decide +kernel
theorem dX9_text_62 : decode cX9_text 62 = .ok (.if_icmp .ge 7, 3) := by decide +kernel
theorem dX9_text_65 : decode cX9_text 65 = .ok (.iconst 1, 1) := by decide +kernel
theorem dX9_text_66 : decode cX9_text 66 = .ok (.goto 4, 3) := by decide +kernel
theorem dX9_text_69 : decode cX9_text 69 = .ok (.iconst 0, 1) := by decide +kernel
theorem dX9_text_70 : decode cX9_text 70 = .ok (.bipush 6, 2) := by decide +kernel
theorem dX9_text_72 : decode cX9_text 72 = .ok (.invokevirtual 113, 3) := by decide +kernel
theorem dX9_text_75 : decode cX9_text 75 = .ok (.aload_n 0, 1) := by decide +kernel
theorem dX9_text_76 : decode cX9_text 76 = .ok (.iconst 0, 1) := by decide +kernel
theorem dX9_text_77 : decode cX9_text 77 = .ok (.putfield 66, 3) := by decide +kernel
theorem dX9_text_80 : decode cX9_text 80 = .ok (.aload_n 0, 1) := by decide +kernel
theorem dX9_text_81 : decode cX9_text 81 = .ok (.getfield 75, 3) := by decide +kernel
theorem dX9_text_84 : decode cX9_text 84 = .ok (.ifCond .le 11, 3) := by decide +kernel
theorem dX9_text_87 : decode cX9_text 87 = .ok (.bipush (-10), 2) := by decide +kernel
theorem dX9_text_89 : decode cX9_text 89 = .ok (.aload_n 0, 1) := by decide +kernel
theorem dX9_text_90 : decode cX9_text 90 = .ok (.getfield 81, 3) := by decide +kernel
theorem dX9_text_93 : decode cX9_text 93 = .ok (.isub, 1) := by decide +kernel
theorem dX9_text_94 : decode cX9_text 94 = .ok (.ireturn, 1) := by decide +kernel
theorem dX9_text_95 : decode cX9_text 95 = .ok (.aload_n 0, 1) := by decide +kernel
theorem dX9_text_96 : decode cX9_text 96 = .ok (.invokevirtual 46, 3) := by decide +kernel
theorem dX9_text_99 : decode cX9_text 99 = .ok (.iload_n 1, 1) := by decide +kernel
theorem dX9_text_100 : decode cX9_text 100 = .ok (.ireturn, 1) := by decide +kernel
theorem dX9_fault_0 : decode cX9_fault 0 = .ok (.aload_n 0, 1) := by decide +kernel
theorem dX9_fault_1 : decode cX9_fault 1 = .ok (.getfield 75, 3) := by decide +kernel
theorem dX9_fault_4 : decode cX9_fault 4 = .ok (.ireturn, 1) := by decide +kernel
theorem dX9_rule_0 : decode cX9_rule 0 = .ok (.iload_n 1, 1) := by decide +kernel
theorem dX9_rule_1 : decode cX9_rule 1 = .ok (.tableswitch 71 0 5 #[39, 46, 46, 46, 58, 63], 39) := by decide +kernel
theorem dX9_rule_40 : decode cX9_rule 40 = .ok (.aload_n 0, 1) := by decide +kernel
theorem dX9_rule_41 : decode cX9_rule 41 = .ok (.getfield 7, 3) := by decide +kernel
theorem dX9_rule_44 : decode cX9_rule 44 = .ok (.iconst 0, 1) := by decide +kernel
theorem dX9_rule_45 : decode cX9_rule 45 = .ok (.iaload, 1) := by decide +kernel
theorem dX9_rule_46 : decode cX9_rule 46 = .ok (.ireturn, 1) := by decide +kernel
theorem dX9_rule_47 : decode cX9_rule 47 = .ok (.aload_n 0, 1) := by decide +kernel
theorem dX9_rule_48 : decode cX9_rule 48 = .ok (.getfield 7, 3) := by decide +kernel
theorem dX9_rule_51 : decode cX9_rule 51 = .ok (.bipush 68, 2) := by decide +kernel
theorem dX9_rule_53 : decode cX9_rule 53 = .ok (.iload_n 1, 1) := by decide +kernel
theorem dX9_rule_54 : decode cX9_rule 54 = .ok (.iadd, 1) := by decide +kernel
theorem dX9_rule_55 : decode cX9_rule 55 = .ok (.iconst 1, 1) := by decide +kernel
theorem dX9_rule_56 : decode cX9_rule 56 = .ok (.isub, 1) := by decide +kernel
theorem dX9_rule_57 : decode cX9_rule 57 = .ok (.iaload, 1) := by decide +kernel
theorem dX9_rule_58 : decode cX9_rule 58 = .ok (.ireturn, 1) := by decide +kernel
theorem dX9_rule_59 : decode cX9_rule 59 = .ok (.aload_n 0, 1) := by decide +kernel
theorem dX9_rule_60 : decode cX9_rule 60 = .ok (.getfield 63, 3) := by decide +kernel
theorem dX9_rule_63 : decode cX9_rule 63 = .ok (.ireturn, 1) := by decide +kernel
theorem dX9_rule_64 : decode cX9_rule 64 = .ok (.aload_n 0, 1) := by decide +kernel
theorem dX9_rule_65 : decode cX9_rule 65 = .ok (.getfield 7, 3) := by decide +kernel
theorem dX9_rule_68 : decode cX9_rule 68 = .ok (.bipush 37, 2) := by decide +kernel
theorem dX9_rule_70 : decode cX9_rule 70 = .ok (.iaload, 1) := by decide +kernel
theorem dX9_rule_71 : decode cX9_rule 71 = .ok (.ireturn, 1) := by decide +kernel
theorem dX9_rule_72 : decode cX9_rule 72 = .ok (.iconst (-1), 1) := by decide +kernel
theorem dX9_rule_73 : decode cX9_rule 73 = .ok (.ireturn, 1) := by decide +kernel
theorem dX9_isFigure_0 : decode cX9_isFigure 0 = .ok (.iload_n 1, 1) := by decide +kernel
theorem dX9_isFigure_1 : decode cX9_isFigure 1 = .ok (.i2l, 1) := by decide +kernel
theorem dX9_isFigure_2 : decode cX9_isFigure 2 = .ok (.lconst 0, 1) := by decide +kernel
theorem dX9_isFigure_3 : decode cX9_isFigure 3 = .ok (.aload_n 0, 1) := by decide +kernel
theorem dX9_isFigure_4 : decode cX9_isFigure 4 = .ok (.getfield 7, 3) := by decide +kernel
theorem dX9_isFigure_7 : decode cX9_isFigure 7 = .ok (.iconst 0, 1) := by decide +kernel
theorem dX9_isFigure_8 : decode cX9_isFigure 8 = .ok (.iaload, 1) := by decide +kernel
theorem dX9_isFigure_9 : decode cX9_isFigure 9 = .ok (.iconst 1, 1) := by decide +kernel
theorem dX9_isFigure_10 : decode cX9_isFigure 10 = .ok (.isub, 1) := by decide +kernel
theorem dX9_isFigure_11 : decode cX9_isFigure 11 = .ok (.i2l, 1) := by decide +kernel
theorem dX9_isFigure_12 : decode cX9_isFigure 12 = .ok (.invokestatic 71, 3) := by decide +kernel
theorem dX9_isFigure_15 : decode cX9_isFigure 15 = .ok (.ireturn, 1) := by decide +kernel
theorem dX9_of_0 : decode cX9_of 0 = .ok (.aload_n 0, 1) := by decide +kernel
theorem dX9_of_1 : decode cX9_of 1 = .ok (.getfield 7, 3) := by decide +kernel
theorem dX9_of_4 : decode cX9_of 4 = .ok (.iconst 1, 1) := by decide +kernel
theorem dX9_of_5 : decode cX9_of 5 = .ok (.bipush 6, 2) := by decide +kernel
theorem dX9_of_7 : decode cX9_of 7 = .ok (.iload_n 1, 1) := by decide +kernel
theorem dX9_of_8 : decode cX9_of 8 = .ok (.imul, 1) := by decide +kernel
theorem dX9_of_9 : decode cX9_of 9 = .ok (.iadd, 1) := by decide +kernel
theorem dX9_of_10 : decode cX9_of 10 = .ok (.iload_n 2, 1) := by decide +kernel
theorem dX9_of_11 : decode cX9_of 11 = .ok (.iadd, 1) := by decide +kernel
theorem dX9_of_12 : decode cX9_of 12 = .ok (.iaload, 1) := by decide +kernel
theorem dX9_of_13 : decode cX9_of 13 = .ok (.ireturn, 1) := by decide +kernel
theorem dX9_roundOf_0 : decode cX9_roundOf 0 = .ok (.aload_n 0, 1) := by decide +kernel
theorem dX9_roundOf_1 : decode cX9_roundOf 1 = .ok (.iload_n 1, 1) := by decide +kernel
theorem dX9_roundOf_2 : decode cX9_roundOf 2 = .ok (.iconst 0, 1) := by decide +kernel
theorem dX9_roundOf_3 : decode cX9_roundOf 3 = .ok (.invokevirtual 143, 3) := by decide +kernel
theorem dX9_roundOf_6 : decode cX9_roundOf 6 = .ok (.iconst 2, 1) := by decide +kernel
theorem dX9_roundOf_7 : decode cX9_roundOf 7 = .ok (.irem, 1) := by decide +kernel
theorem dX9_roundOf_8 : decode cX9_roundOf 8 = .ok (.iconst 1, 1) := by decide +kernel
theorem dX9_roundOf_9 : decode cX9_roundOf 9 = .ok (.if_icmp .ne 21, 3) := by decide +kernel
theorem dX9_roundOf_12 : decode cX9_roundOf 12 = .ok (.aload_n 0, 1) := by decide +kernel
theorem dX9_roundOf_13 : decode cX9_roundOf 13 = .ok (.iload_n 1, 1) := by decide +kernel
theorem dX9_roundOf_14 : decode cX9_roundOf 14 = .ok (.iconst 4, 1) := by decide +kernel
theorem dX9_roundOf_15 : decode cX9_roundOf 15 = .ok (.invokevirtual 143, 3) := by decide +kernel
theorem dX9_roundOf_18 : decode cX9_roundOf 18 = .ok (.aload_n 0, 1) := by decide +kernel
theorem dX9_roundOf_19 : decode cX9_roundOf 19 = .ok (.iload_n 1, 1) := by decide +kernel
theorem dX9_roundOf_20 : decode cX9_roundOf 20 = .ok (.iconst 1, 1) := by decide +kernel
theorem dX9_roundOf_21 : decode cX9_roundOf 21 = .ok (.invokevirtual 143, 3) := by decide +kernel
theorem dX9_roundOf_24 : decode cX9_roundOf 24 = .ok (.imul, 1) := by decide +kernel
theorem dX9_roundOf_25 : decode cX9_roundOf 25 = .ok (.iconst 1, 1) := by decide +kernel
theorem dX9_roundOf_26 : decode cX9_roundOf 26 = .ok (.iadd, 1) := by decide +kernel
theorem dX9_roundOf_27 : decode cX9_roundOf 27 = .ok (.goto 9, 3) := by decide +kernel
theorem dX9_roundOf_30 : decode cX9_roundOf 30 = .ok (.aload_n 0, 1) := by decide +kernel
theorem dX9_roundOf_31 : decode cX9_roundOf 31 = .ok (.iload_n 1, 1) := by decide +kernel
theorem dX9_roundOf_32 : decode cX9_roundOf 32 = .ok (.iconst 1, 1) := by decide +kernel
theorem dX9_roundOf_33 : decode cX9_roundOf 33 = .ok (.invokevirtual 143, 3) := by decide +kernel
theorem dX9_roundOf_36 : decode cX9_roundOf 36 = .ok (.ireturn, 1) := by decide +kernel
theorem dX9_figure_0 : decode cX9_figure 0 = .ok (.aload_n 0, 1) := by decide +kernel
theorem dX9_figure_1 : decode cX9_figure 1 = .ok (.iload_n 1, 1) := by decide +kernel
theorem dX9_figure_2 : decode cX9_figure 2 = .ok (.invokevirtual 146, 3) := by decide +kernel
theorem dX9_figure_5 : decode cX9_figure 5 = .ok (.ifCond .ne 7, 3) := by decide +kernel
theorem dX9_figure_8 : decode cX9_figure 8 = .ok (.iconst (-1), 1) := by decide +kernel
theorem dX9_figure_9 : decode cX9_figure 9 = .ok (.goto 39, 3) := by decide +kernel
theorem dX9_figure_12 : decode cX9_figure 12 = .ok (.iload_n 2, 1) := by decide +kernel
theorem dX9_figure_13 : decode cX9_figure 13 = .ok (.i2l, 1) := by decide +kernel
theorem dX9_figure_14 : decode cX9_figure 14 = .ok (.lconst 0, 1) := by decide +kernel
theorem dX9_figure_15 : decode cX9_figure 15 = .ok (.ldc2_w 150, 3) := by decide +kernel
theorem dX9_figure_18 : decode cX9_figure 18 = .ok (.invokestatic 71, 3) := by decide +kernel
theorem dX9_figure_21 : decode cX9_figure 21 = .ok (.ifCond .eq 12, 3) := by decide +kernel
theorem dX9_figure_24 : decode cX9_figure 24 = .ok (.aload_n 0, 1) := by decide +kernel
theorem dX9_figure_25 : decode cX9_figure 25 = .ok (.iload_n 1, 1) := by decide +kernel
theorem dX9_figure_26 : decode cX9_figure 26 = .ok (.iload_n 2, 1) := by decide +kernel
theorem dX9_figure_27 : decode cX9_figure 27 = .ok (.invokevirtual 143, 3) := by decide +kernel
theorem dX9_figure_30 : decode cX9_figure 30 = .ok (.goto 18, 3) := by decide +kernel
theorem dX9_figure_33 : decode cX9_figure 33 = .ok (.iload_n 2, 1) := by decide +kernel
theorem dX9_figure_34 : decode cX9_figure 34 = .ok (.bipush 6, 2) := by decide +kernel
theorem dX9_figure_36 : decode cX9_figure 36 = .ok (.if_icmp .ne 11, 3) := by decide +kernel
theorem dX9_figure_39 : decode cX9_figure 39 = .ok (.aload_n 0, 1) := by decide +kernel
theorem dX9_figure_40 : decode cX9_figure 40 = .ok (.iload_n 1, 1) := by decide +kernel
theorem dX9_figure_41 : decode cX9_figure 41 = .ok (.invokevirtual 152, 3) := by decide +kernel
theorem dX9_figure_44 : decode cX9_figure 44 = .ok (.goto 4, 3) := by decide +kernel
theorem dX9_figure_47 : decode cX9_figure 47 = .ok (.iconst (-1), 1) := by decide +kernel
theorem dX9_figure_48 : decode cX9_figure 48 = .ok (.ireturn, 1) := by decide +kernel
theorem dX9_vote_0 : decode cX9_vote 0 = .ok (.iload_n 1, 1) := by decide +kernel
theorem dX9_vote_1 : decode cX9_vote 1 = .ok (.i2l, 1) := by decide +kernel
theorem dX9_vote_2 : decode cX9_vote 2 = .ok (.lconst 0, 1) := by decide +kernel
theorem dX9_vote_3 : decode cX9_vote 3 = .ok (.aload_n 0, 1) := by decide +kernel
theorem dX9_vote_4 : decode cX9_vote 4 = .ok (.getfield 7, 3) := by decide +kernel
theorem dX9_vote_7 : decode cX9_vote 7 = .ok (.bipush 37, 2) := by decide +kernel
theorem dX9_vote_9 : decode cX9_vote 9 = .ok (.iaload, 1) := by decide +kernel
theorem dX9_vote_10 : decode cX9_vote 10 = .ok (.iconst 1, 1) := by decide +kernel
theorem dX9_vote_11 : decode cX9_vote 11 = .ok (.isub, 1) := by decide +kernel
theorem dX9_vote_12 : decode cX9_vote 12 = .ok (.i2l, 1) := by decide +kernel
theorem dX9_vote_13 : decode cX9_vote 13 = .ok (.invokestatic 71, 3) := by decide +kernel
theorem dX9_vote_16 : decode cX9_vote 16 = .ok (.ifCond .eq 31, 3) := by decide +kernel
theorem dX9_vote_19 : decode cX9_vote 19 = .ok (.iload_n 2, 1) := by decide +kernel
theorem dX9_vote_20 : decode cX9_vote 20 = .ok (.i2l, 1) := by decide +kernel
theorem dX9_vote_21 : decode cX9_vote 21 = .ok (.lconst 0, 1) := by decide +kernel
theorem dX9_vote_22 : decode cX9_vote 22 = .ok (.ldc2_w 155, 3) := by decide +kernel
theorem dX9_vote_25 : decode cX9_vote 25 = .ok (.invokestatic 71, 3) := by decide +kernel
theorem dX9_vote_28 : decode cX9_vote 28 = .ok (.ifCond .eq 19, 3) := by decide +kernel
theorem dX9_vote_31 : decode cX9_vote 31 = .ok (.aload_n 0, 1) := by decide +kernel
theorem dX9_vote_32 : decode cX9_vote 32 = .ok (.getfield 7, 3) := by decide +kernel
theorem dX9_vote_35 : decode cX9_vote 35 = .ok (.bipush 38, 2) := by decide +kernel
theorem dX9_vote_37 : decode cX9_vote 37 = .ok (.iconst 5, 1) := by decide +kernel
theorem dX9_vote_38 : decode cX9_vote 38 = .ok (.iload_n 1, 1) := by decide +kernel
theorem dX9_vote_39 : decode cX9_vote 39 = .ok (.imul, 1) := by decide +kernel
theorem dX9_vote_40 : decode cX9_vote 40 = .ok (.iadd, 1) := by decide +kernel
theorem dX9_vote_41 : decode cX9_vote 41 = .ok (.iload_n 2, 1) := by decide +kernel
theorem dX9_vote_42 : decode cX9_vote 42 = .ok (.iadd, 1) := by decide +kernel
theorem dX9_vote_43 : decode cX9_vote 43 = .ok (.iaload, 1) := by decide +kernel
theorem dX9_vote_44 : decode cX9_vote 44 = .ok (.goto 4, 3) := by decide +kernel
theorem dX9_vote_47 : decode cX9_vote 47 = .ok (.iconst (-1), 1) := by decide +kernel
theorem dX9_vote_48 : decode cX9_vote 48 = .ok (.ireturn, 1) := by decide +kernel
theorem dX9_timesOf_0 : decode cX9_timesOf 0 = .ok (.aload_n 0, 1) := by decide +kernel
theorem dX9_timesOf_1 : decode cX9_timesOf 1 = .ok (.iload_n 1, 1) := by decide +kernel
theorem dX9_timesOf_2 : decode cX9_timesOf 2 = .ok (.iconst 0, 1) := by decide +kernel
theorem dX9_timesOf_3 : decode cX9_timesOf 3 = .ok (.invokevirtual 143, 3) := by decide +kernel
theorem dX9_timesOf_6 : decode cX9_timesOf 6 = .ok (.iconst 2, 1) := by decide +kernel
theorem dX9_timesOf_7 : decode cX9_timesOf 7 = .ok (.irem, 1) := by decide +kernel
theorem dX9_timesOf_8 : decode cX9_timesOf 8 = .ok (.iconst 1, 1) := by decide +kernel
theorem dX9_timesOf_9 : decode cX9_timesOf 9 = .ok (.if_icmp .ne 12, 3) := by decide +kernel
theorem dX9_timesOf_12 : decode cX9_timesOf 12 = .ok (.aload_n 0, 1) := by decide +kernel
theorem dX9_timesOf_13 : decode cX9_timesOf 13 = .ok (.iload_n 1, 1) := by decide +kernel
theorem dX9_timesOf_14 : decode cX9_timesOf 14 = .ok (.iconst 4, 1) := by decide +kernel
theorem dX9_timesOf_15 : decode cX9_timesOf 15 = .ok (.invokevirtual 143, 3) := by decide +kernel
theorem dX9_timesOf_18 : decode cX9_timesOf 18 = .ok (.goto 4, 3) := by decide +kernel
theorem dX9_timesOf_21 : decode cX9_timesOf 21 = .ok (.iconst 1, 1) := by decide +kernel
theorem dX9_timesOf_22 : decode cX9_timesOf 22 = .ok (.aload_n 0, 1) := by decide +kernel
theorem dX9_timesOf_23 : decode cX9_timesOf 23 = .ok (.iload_n 1, 1) := by decide +kernel
theorem dX9_timesOf_24 : decode cX9_timesOf 24 = .ok (.iconst 0, 1) := by decide +kernel
theorem dX9_timesOf_25 : decode cX9_timesOf 25 = .ok (.invokevirtual 143, 3) := by decide +kernel
theorem dX9_timesOf_28 : decode cX9_timesOf 28 = .ok (.iconst 1, 1) := by decide +kernel
theorem dX9_timesOf_29 : decode cX9_timesOf 29 = .ok (.if_icmp .le 7, 3) := by decide +kernel
theorem dX9_timesOf_32 : decode cX9_timesOf 32 = .ok (.iconst 2, 1) := by decide +kernel
theorem dX9_timesOf_33 : decode cX9_timesOf 33 = .ok (.goto 4, 3) := by decide +kernel
theorem dX9_timesOf_36 : decode cX9_timesOf 36 = .ok (.iconst 1, 1) := by decide +kernel
theorem dX9_timesOf_37 : decode cX9_timesOf 37 = .ok (.imul, 1) := by decide +kernel
theorem dX9_timesOf_38 : decode cX9_timesOf 38 = .ok (.ireturn, 1) := by decide +kernel
theorem dX9_restOf_0 : decode cX9_restOf 0 = .ok (.aload_n 0, 1) := by decide +kernel
theorem dX9_restOf_1 : decode cX9_restOf 1 = .ok (.iload_n 1, 1) := by decide +kernel
theorem dX9_restOf_2 : decode cX9_restOf 2 = .ok (.iconst 0, 1) := by decide +kernel
theorem dX9_restOf_3 : decode cX9_restOf 3 = .ok (.invokevirtual 143, 3) := by decide +kernel
theorem dX9_restOf_6 : decode cX9_restOf 6 = .ok (.iconst 2, 1) := by decide +kernel
theorem dX9_restOf_7 : decode cX9_restOf 7 = .ok (.irem, 1) := by decide +kernel
theorem dX9_restOf_8 : decode cX9_restOf 8 = .ok (.iconst 1, 1) := by decide +kernel
theorem dX9_restOf_9 : decode cX9_restOf 9 = .ok (.if_icmp .ne 12, 3) := by decide +kernel
theorem dX9_restOf_12 : decode cX9_restOf 12 = .ok (.aload_n 0, 1) := by decide +kernel
theorem dX9_restOf_13 : decode cX9_restOf 13 = .ok (.iload_n 1, 1) := by decide +kernel
theorem dX9_restOf_14 : decode cX9_restOf 14 = .ok (.iconst 4, 1) := by decide +kernel
theorem dX9_restOf_15 : decode cX9_restOf 15 = .ok (.invokevirtual 143, 3) := by decide +kernel
theorem dX9_restOf_18 : decode cX9_restOf 18 = .ok (.goto 4, 3) := by decide +kernel
theorem dX9_restOf_21 : decode cX9_restOf 21 = .ok (.iconst 1, 1) := by decide +kernel
theorem dX9_restOf_22 : decode cX9_restOf 22 = .ok (.istore_n 3, 1) := by decide +kernel
theorem dX9_restOf_23 : decode cX9_restOf 23 = .ok (.aload_n 0, 1) := by decide +kernel
theorem dX9_restOf_24 : decode cX9_restOf 24 = .ok (.iload_n 1, 1) := by decide +kernel
theorem dX9_restOf_25 : decode cX9_restOf 25 = .ok (.iconst 2, 1) := by decide +kernel
theorem dX9_restOf_26 : decode cX9_restOf 26 = .ok (.invokevirtual 143, 3) := by decide +kernel
theorem dX9_restOf_29 : decode cX9_restOf 29 = .ok (.iload_n 2, 1) := by decide +kernel
theorem dX9_restOf_30 : decode cX9_restOf 30 = .ok (.iload_n 3, 1) := by decide +kernel
theorem dX9_restOf_31 : decode cX9_restOf 31 = .ok (.irem, 1) := by decide +kernel
theorem dX9_restOf_32 : decode cX9_restOf 32 = .ok (.aload_n 0, 1) := by decide +kernel
theorem dX9_restOf_33 : decode cX9_restOf 33 = .ok (.iload_n 1, 1) := by decide +kernel
theorem dX9_restOf_34 : decode cX9_restOf 34 = .ok (.iconst 1, 1) := by decide +kernel
theorem dX9_restOf_35 : decode cX9_restOf 35 = .ok (.invokevirtual 143, 3) := by decide +kernel
theorem dX9_restOf_38 : decode cX9_restOf 38 = .ok (.imul, 1) := by decide +kernel
theorem dX9_restOf_39 : decode cX9_restOf 39 = .ok (.iadd, 1) := by decide +kernel
theorem dX9_restOf_40 : decode cX9_restOf 40 = .ok (.iload_n 2, 1) := by decide +kernel
theorem dX9_restOf_41 : decode cX9_restOf 41 = .ok (.iload_n 3, 1) := by decide +kernel
theorem dX9_restOf_42 : decode cX9_restOf 42 = .ok (.if_icmp .ge 7, 3) := by decide +kernel
theorem dX9_restOf_45 : decode cX9_restOf 45 = .ok (.iconst 0, 1) := by decide +kernel
theorem dX9_restOf_46 : decode cX9_restOf 46 = .ok (.goto 9, 3) := by decide +kernel
theorem dX9_restOf_49 : decode cX9_restOf 49 = .ok (.aload_n 0, 1) := by decide +kernel
theorem dX9_restOf_50 : decode cX9_restOf 50 = .ok (.iload_n 1, 1) := by decide +kernel
theorem dX9_restOf_51 : decode cX9_restOf 51 = .ok (.iconst 5, 1) := by decide +kernel
theorem dX9_restOf_52 : decode cX9_restOf 52 = .ok (.invokevirtual 143, 3) := by decide +kernel
theorem dX9_restOf_55 : decode cX9_restOf 55 = .ok (.iadd, 1) := by decide +kernel
theorem dX9_restOf_56 : decode cX9_restOf 56 = .ok (.istore 4, 2) := by decide +kernel
theorem dX9_restOf_58 : decode cX9_restOf 58 = .ok (.iload 4, 2) := by decide +kernel
theorem dX9_restOf_60 : decode cX9_restOf 60 = .ok (.aload_n 0, 1) := by decide +kernel
theorem dX9_restOf_61 : decode cX9_restOf 61 = .ok (.iload_n 1, 1) := by decide +kernel
theorem dX9_restOf_62 : decode cX9_restOf 62 = .ok (.invokevirtual 152, 3) := by decide +kernel
theorem dX9_restOf_65 : decode cX9_restOf 65 = .ok (.irem, 1) := by decide +kernel
theorem dX9_restOf_66 : decode cX9_restOf 66 = .ok (.ireturn, 1) := by decide +kernel
theorem dX9_isOut_0 : decode cX9_isOut 0 = .ok (.iconst 0, 1) := by decide +kernel
theorem dX9_isOut_1 : decode cX9_isOut 1 = .ok (.istore 4, 2) := by decide +kernel
theorem dX9_isOut_3 : decode cX9_isOut 3 = .ok (.lload_n 2, 1) := by decide +kernel
theorem dX9_isOut_4 : decode cX9_isOut 4 = .ok (.aload_n 0, 1) := by decide +kernel
theorem dX9_isOut_5 : decode cX9_isOut 5 = .ok (.iload_n 1, 1) := by decide +kernel
theorem dX9_isOut_6 : decode cX9_isOut 6 = .ok (.invokevirtual 152, 3) := by decide +kernel
theorem dX9_isOut_9 : decode cX9_isOut 9 = .ok (.i2l, 1) := by decide +kernel
theorem dX9_isOut_10 : decode cX9_isOut 10 = .ok (.lrem, 1) := by decide +kernel
theorem dX9_isOut_11 : decode cX9_isOut 11 = .ok (.l2i, 1) := by decide +kernel
theorem dX9_isOut_12 : decode cX9_isOut 12 = .ok (.istore 5, 2) := by decide +kernel
theorem dX9_isOut_14 : decode cX9_isOut 14 = .ok (.iconst 0, 1) := by decide +kernel
theorem dX9_isOut_15 : decode cX9_isOut 15 = .ok (.istore 6, 2) := by decide +kernel
theorem dX9_isOut_17 : decode cX9_isOut 17 = .ok (.iload 6, 2) := by decide +kernel
theorem dX9_isOut_19 : decode cX9_isOut 19 = .ok (.aload_n 0, 1) := by decide +kernel
theorem dX9_isOut_20 : decode cX9_isOut 20 = .ok (.iload_n 1, 1) := by decide +kernel
theorem dX9_isOut_21 : decode cX9_isOut 21 = .ok (.invokevirtual 157, 3) := by decide +kernel
theorem dX9_isOut_24 : decode cX9_isOut 24 = .ok (.if_icmp .ge 33, 3) := by decide +kernel
theorem dX9_isOut_27 : decode cX9_isOut 27 = .ok (.iload 4, 2) := by decide +kernel
theorem dX9_isOut_29 : decode cX9_isOut 29 = .ok (.ifCond .ne 15, 3) := by decide +kernel
theorem dX9_isOut_32 : decode cX9_isOut 32 = .ok (.aload_n 0, 1) := by decide +kernel
theorem dX9_isOut_33 : decode cX9_isOut 33 = .ok (.iload_n 1, 1) := by decide +kernel
theorem dX9_isOut_34 : decode cX9_isOut 34 = .ok (.iload 6, 2) := by decide +kernel
theorem dX9_isOut_36 : decode cX9_isOut 36 = .ok (.invokevirtual 160, 3) := by decide +kernel
theorem dX9_isOut_39 : decode cX9_isOut 39 = .ok (.iload 5, 2) := by decide +kernel
theorem dX9_isOut_41 : decode cX9_isOut 41 = .ok (.if_icmp .ne 7, 3) := by decide +kernel
theorem dX9_isOut_44 : decode cX9_isOut 44 = .ok (.iconst 1, 1) := by decide +kernel
theorem dX9_isOut_45 : decode cX9_isOut 45 = .ok (.goto 4, 3) := by decide +kernel
theorem dX9_isOut_48 : decode cX9_isOut 48 = .ok (.iconst 0, 1) := by decide +kernel
theorem dX9_isOut_49 : decode cX9_isOut 49 = .ok (.istore 4, 2) := by decide +kernel
theorem dX9_isOut_51 : decode cX9_isOut 51 = .ok (.iinc 6 1, 3) := by decide +kernel
theorem dX9_isOut_54 : decode cX9_isOut 54 = .ok (.goto (-37), 3) := by decide +kernel
theorem dX9_isOut_57 : decode cX9_isOut 57 = .ok (.iload 4, 2) := by decide +kernel
theorem dX9_isOut_59 : decode cX9_isOut 59 = .ok (.ireturn, 1) := by decide +kernel
theorem dX9_isDay_0 : decode cX9_isDay 0 = .ok (.lload_n 0, 1) := by decide +kernel
theorem dX9_isDay_1 : decode cX9_isDay 1 = .ok (.lconst 0, 1) := by decide +kernel
theorem dX9_isDay_2 : decode cX9_isDay 2 = .ok (.ldc2_w 163, 3) := by decide +kernel
theorem dX9_isDay_5 : decode cX9_isDay 5 = .ok (.invokestatic 71, 3) := by decide +kernel
theorem dX9_isDay_8 : decode cX9_isDay 8 = .ok (.ireturn, 1) := by decide +kernel
theorem dX9_out_0 : decode cX9_out 0 = .ok (.aload_n 0, 1) := by decide +kernel
theorem dX9_out_1 : decode cX9_out 1 = .ok (.iload_n 1, 1) := by decide +kernel
theorem dX9_out_2 : decode cX9_out 2 = .ok (.invokevirtual 146, 3) := by decide +kernel
theorem dX9_out_5 : decode cX9_out 5 = .ok (.ifCond .eq 22, 3) := by decide +kernel
theorem dX9_out_8 : decode cX9_out 8 = .ok (.lload_n 2, 1) := by decide +kernel
theorem dX9_out_9 : decode cX9_out 9 = .ok (.invokestatic 165, 3) := by decide +kernel
theorem dX9_out_12 : decode cX9_out 12 = .ok (.ifCond .eq 15, 3) := by decide +kernel
theorem dX9_out_15 : decode cX9_out 15 = .ok (.aload_n 0, 1) := by decide +kernel
theorem dX9_out_16 : decode cX9_out 16 = .ok (.iload_n 1, 1) := by decide +kernel
theorem dX9_out_17 : decode cX9_out 17 = .ok (.lload_n 2, 1) := by decide +kernel
theorem dX9_out_18 : decode cX9_out 18 = .ok (.invokevirtual 169, 3) := by decide +kernel
theorem dX9_out_21 : decode cX9_out 21 = .ok (.invokestatic 173, 3) := by decide +kernel
theorem dX9_out_24 : decode cX9_out 24 = .ok (.goto 4, 3) := by decide +kernel
theorem dX9_out_27 : decode cX9_out 27 = .ok (.iconst (-1), 1) := by decide +kernel
theorem dX9_out_28 : decode cX9_out 28 = .ok (.ireturn, 1) := by decide +kernel
theorem dX9_firstBy_0 : decode cX9_firstBy 0 = .ok (.lload_n 0, 1) := by decide +kernel
theorem dX9_firstBy_1 : decode cX9_firstBy 1 = .ok (.lload_n 2, 1) := by decide +kernel
theorem dX9_firstBy_2 : decode cX9_firstBy 2 = .ok (.lsub, 1) := by decide +kernel
theorem dX9_firstBy_3 : decode cX9_firstBy 3 = .ok (.lload 4, 2) := by decide +kernel
theorem dX9_firstBy_5 : decode cX9_firstBy 5 = .ok (.lrem, 1) := by decide +kernel
theorem dX9_firstBy_6 : decode cX9_firstBy 6 = .ok (.lstore 6, 2) := by decide +kernel
theorem dX9_firstBy_8 : decode cX9_firstBy 8 = .ok (.lload 6, 2) := by decide +kernel
theorem dX9_firstBy_10 : decode cX9_firstBy 10 = .ok (.lconst 0, 1) := by decide +kernel
theorem dX9_firstBy_11 : decode cX9_firstBy 11 = .ok (.lcmp, 1) := by decide +kernel
theorem dX9_firstBy_12 : decode cX9_firstBy 12 = .ok (.ifCond .ge 11, 3) := by decide +kernel
theorem dX9_firstBy_15 : decode cX9_firstBy 15 = .ok (.lload 6, 2) := by decide +kernel
theorem dX9_firstBy_17 : decode cX9_firstBy 17 = .ok (.lload 4, 2) := by decide +kernel
theorem dX9_firstBy_19 : decode cX9_firstBy 19 = .ok (.ladd, 1) := by decide +kernel
theorem dX9_firstBy_20 : decode cX9_firstBy 20 = .ok (.goto 5, 3) := by decide +kernel
theorem dX9_firstBy_23 : decode cX9_firstBy 23 = .ok (.lload 6, 2) := by decide +kernel
theorem dX9_firstBy_25 : decode cX9_firstBy 25 = .ok (.lstore 6, 2) := by decide +kernel
theorem dX9_firstBy_27 : decode cX9_firstBy 27 = .ok (.lload 6, 2) := by decide +kernel
theorem dX9_firstBy_29 : decode cX9_firstBy 29 = .ok (.lconst 0, 1) := by decide +kernel
theorem dX9_firstBy_30 : decode cX9_firstBy 30 = .ok (.lcmp, 1) := by decide +kernel
theorem dX9_firstBy_31 : decode cX9_firstBy 31 = .ok (.ifCond .ne 7, 3) := by decide +kernel
theorem dX9_firstBy_34 : decode cX9_firstBy 34 = .ok (.lload_n 0, 1) := by decide +kernel
theorem dX9_firstBy_35 : decode cX9_firstBy 35 = .ok (.goto 10, 3) := by decide +kernel
theorem dX9_firstBy_38 : decode cX9_firstBy 38 = .ok (.lload_n 0, 1) := by decide +kernel
theorem dX9_firstBy_39 : decode cX9_firstBy 39 = .ok (.lload 4, 2) := by decide +kernel
theorem dX9_firstBy_41 : decode cX9_firstBy 41 = .ok (.ladd, 1) := by decide +kernel
theorem dX9_firstBy_42 : decode cX9_firstBy 42 = .ok (.lload 6, 2) := by decide +kernel
theorem dX9_firstBy_44 : decode cX9_firstBy 44 = .ok (.lsub, 1) := by decide +kernel
theorem dX9_firstBy_45 : decode cX9_firstBy 45 = .ok (.lreturn, 1) := by decide +kernel
theorem dX9_nextOf_0 : decode cX9_nextOf 0 = .ok (.ldc2_w 177, 3) := by decide +kernel
theorem dX9_nextOf_3 : decode cX9_nextOf 3 = .ok (.lstore 4, 2) := by decide +kernel
theorem dX9_nextOf_5 : decode cX9_nextOf 5 = .ok (.iconst 0, 1) := by decide +kernel
theorem dX9_nextOf_6 : decode cX9_nextOf 6 = .ok (.istore 6, 2) := by decide +kernel
theorem dX9_nextOf_8 : decode cX9_nextOf 8 = .ok (.iload 6, 2) := by decide +kernel
theorem dX9_nextOf_10 : decode cX9_nextOf 10 = .ok (.aload_n 0, 1) := by decide +kernel
theorem dX9_nextOf_11 : decode cX9_nextOf 11 = .ok (.iload_n 1, 1) := by decide +kernel
theorem dX9_nextOf_12 : decode cX9_nextOf 12 = .ok (.invokevirtual 157, 3) := by decide +kernel
theorem dX9_nextOf_15 : decode cX9_nextOf 15 = .ok (.if_icmp .ge 53, 3) := by decide +kernel
theorem dX9_nextOf_18 : decode cX9_nextOf 18 = .ok (.lload_n 2, 1) := by decide +kernel
theorem dX9_nextOf_19 : decode cX9_nextOf 19 = .ok (.aload_n 0, 1) := by decide +kernel
theorem dX9_nextOf_20 : decode cX9_nextOf 20 = .ok (.iload_n 1, 1) := by decide +kernel
theorem dX9_nextOf_21 : decode cX9_nextOf 21 = .ok (.iload 6, 2) := by decide +kernel
theorem dX9_nextOf_23 : decode cX9_nextOf 23 = .ok (.invokevirtual 160, 3) := by decide +kernel
theorem dX9_nextOf_26 : decode cX9_nextOf 26 = .ok (.i2l, 1) := by decide +kernel
theorem dX9_nextOf_27 : decode cX9_nextOf 27 = .ok (.aload_n 0, 1) := by decide +kernel
theorem dX9_nextOf_28 : decode cX9_nextOf 28 = .ok (.iload_n 1, 1) := by decide +kernel
theorem dX9_nextOf_29 : decode cX9_nextOf 29 = .ok (.invokevirtual 152, 3) := by decide +kernel
theorem dX9_nextOf_32 : decode cX9_nextOf 32 = .ok (.i2l, 1) := by decide +kernel
theorem dX9_nextOf_33 : decode cX9_nextOf 33 = .ok (.invokestatic 179, 3) := by decide +kernel
theorem dX9_nextOf_36 : decode cX9_nextOf 36 = .ok (.lstore 7, 2) := by decide +kernel
theorem dX9_nextOf_38 : decode cX9_nextOf 38 = .ok (.lload 4, 2) := by decide +kernel
theorem dX9_nextOf_40 : decode cX9_nextOf 40 = .ok (.lconst 0, 1) := by decide +kernel
theorem dX9_nextOf_41 : decode cX9_nextOf 41 = .ok (.lcmp, 1) := by decide +kernel
theorem dX9_nextOf_42 : decode cX9_nextOf 42 = .ok (.ifCond .lt 11, 3) := by decide +kernel
theorem dX9_nextOf_45 : decode cX9_nextOf 45 = .ok (.lload 7, 2) := by decide +kernel
theorem dX9_nextOf_47 : decode cX9_nextOf 47 = .ok (.lload 4, 2) := by decide +kernel
theorem dX9_nextOf_49 : decode cX9_nextOf 49 = .ok (.lcmp, 1) := by decide +kernel
theorem dX9_nextOf_50 : decode cX9_nextOf 50 = .ok (.ifCond .ge 8, 3) := by decide +kernel
theorem dX9_nextOf_53 : decode cX9_nextOf 53 = .ok (.lload 7, 2) := by decide +kernel
theorem dX9_nextOf_55 : decode cX9_nextOf 55 = .ok (.goto 5, 3) := by decide +kernel
theorem dX9_nextOf_58 : decode cX9_nextOf 58 = .ok (.lload 4, 2) := by decide +kernel
theorem dX9_nextOf_60 : decode cX9_nextOf 60 = .ok (.lstore 4, 2) := by decide +kernel
theorem dX9_nextOf_62 : decode cX9_nextOf 62 = .ok (.iinc 6 1, 3) := by decide +kernel
theorem dX9_nextOf_65 : decode cX9_nextOf 65 = .ok (.goto (-57), 3) := by decide +kernel
theorem dX9_nextOf_68 : decode cX9_nextOf 68 = .ok (.lload 4, 2) := by decide +kernel
theorem dX9_nextOf_70 : decode cX9_nextOf 70 = .ok (.lreturn, 1) := by decide +kernel
theorem dX9_toEnd_0 : decode cX9_toEnd 0 = .ok (.lload_n 0, 1) := by decide +kernel
theorem dX9_toEnd_1 : decode cX9_toEnd 1 = .ok (.ldc2_w 163, 3) := by decide +kernel
theorem dX9_toEnd_4 : decode cX9_toEnd 4 = .ok (.lcmp, 1) := by decide +kernel
theorem dX9_toEnd_5 : decode cX9_toEnd 5 = .ok (.ifCond .gt 9, 3) := by decide +kernel
theorem dX9_toEnd_8 : decode cX9_toEnd 8 = .ok (.lload_n 0, 1) := by decide +kernel
theorem dX9_toEnd_9 : decode cX9_toEnd 9 = .ok (.lconst 0, 1) := by decide +kernel
theorem dX9_toEnd_10 : decode cX9_toEnd 10 = .ok (.lcmp, 1) := by decide +kernel
theorem dX9_toEnd_11 : decode cX9_toEnd 11 = .ok (.ifCond .ge 9, 3) := by decide +kernel
theorem dX9_toEnd_14 : decode cX9_toEnd 14 = .ok (.ldc2_w 183, 3) := by decide +kernel
theorem dX9_toEnd_17 : decode cX9_toEnd 17 = .ok (.goto 4, 3) := by decide +kernel
theorem dX9_toEnd_20 : decode cX9_toEnd 20 = .ok (.lload_n 0, 1) := by decide +kernel
theorem dX9_toEnd_21 : decode cX9_toEnd 21 = .ok (.lreturn, 1) := by decide +kernel
theorem dX9_next_0 : decode cX9_next 0 = .ok (.aload_n 0, 1) := by decide +kernel
theorem dX9_next_1 : decode cX9_next 1 = .ok (.iload_n 1, 1) := by decide +kernel
theorem dX9_next_2 : decode cX9_next 2 = .ok (.invokevirtual 146, 3) := by decide +kernel
theorem dX9_next_5 : decode cX9_next 5 = .ok (.ifCond .eq 22, 3) := by decide +kernel
theorem dX9_next_8 : decode cX9_next 8 = .ok (.lload_n 2, 1) := by decide +kernel
theorem dX9_next_9 : decode cX9_next 9 = .ok (.invokestatic 165, 3) := by decide +kernel
theorem dX9_next_12 : decode cX9_next 12 = .ok (.ifCond .eq 15, 3) := by decide +kernel
theorem dX9_next_15 : decode cX9_next 15 = .ok (.aload_n 0, 1) := by decide +kernel
theorem dX9_next_16 : decode cX9_next 16 = .ok (.iload_n 1, 1) := by decide +kernel
theorem dX9_next_17 : decode cX9_next 17 = .ok (.lload_n 2, 1) := by decide +kernel
theorem dX9_next_18 : decode cX9_next 18 = .ok (.invokevirtual 185, 3) := by decide +kernel
theorem dX9_next_21 : decode cX9_next 21 = .ok (.invokestatic 189, 3) := by decide +kernel
theorem dX9_next_24 : decode cX9_next 24 = .ok (.goto 6, 3) := by decide +kernel
theorem dX9_next_27 : decode cX9_next 27 = .ok (.ldc2_w 177, 3) := by decide +kernel
theorem dX9_next_30 : decode cX9_next 30 = .ok (.lreturn, 1) := by decide +kernel
theorem dX9_last_0 : decode cX9_last 0 = .ok (.aload_n 0, 1) := by decide +kernel
theorem dX9_last_1 : decode cX9_last 1 = .ok (.iload_n 1, 1) := by decide +kernel
theorem dX9_last_2 : decode cX9_last 2 = .ok (.invokevirtual 146, 3) := by decide +kernel
theorem dX9_last_5 : decode cX9_last 5 = .ok (.ifCond .eq 10, 3) := by decide +kernel
theorem dX9_last_8 : decode cX9_last 8 = .ok (.lload_n 2, 1) := by decide +kernel
theorem dX9_last_9 : decode cX9_last 9 = .ok (.invokestatic 165, 3) := by decide +kernel
theorem dX9_last_12 : decode cX9_last 12 = .ok (.ifCond .ne 7, 3) := by decide +kernel
theorem dX9_last_15 : decode cX9_last 15 = .ok (.ldc2_w 177, 3) := by decide +kernel
theorem dX9_last_18 : decode cX9_last 18 = .ok (.lreturn, 1) := by decide +kernel
theorem dX9_last_19 : decode cX9_last 19 = .ok (.ldc2_w 183, 3) := by decide +kernel
theorem dX9_last_22 : decode cX9_last 22 = .ok (.lstore 4, 2) := by decide +kernel
theorem dX9_last_24 : decode cX9_last 24 = .ok (.iconst 0, 1) := by decide +kernel
theorem dX9_last_25 : decode cX9_last 25 = .ok (.istore 6, 2) := by decide +kernel
theorem dX9_last_27 : decode cX9_last 27 = .ok (.iload 6, 2) := by decide +kernel
theorem dX9_last_29 : decode cX9_last 29 = .ok (.aload_n 0, 1) := by decide +kernel
theorem dX9_last_30 : decode cX9_last 30 = .ok (.iload_n 1, 1) := by decide +kernel
theorem dX9_last_31 : decode cX9_last 31 = .ok (.invokevirtual 157, 3) := by decide +kernel
theorem dX9_last_34 : decode cX9_last 34 = .ok (.if_icmp .ge 55, 3) := by decide +kernel
theorem dX9_last_37 : decode cX9_last 37 = .ok (.lload_n 2, 1) := by decide +kernel
theorem dX9_last_38 : decode cX9_last 38 = .ok (.lconst 1, 1) := by decide +kernel
theorem dX9_last_39 : decode cX9_last 39 = .ok (.ladd, 1) := by decide +kernel
theorem dX9_last_40 : decode cX9_last 40 = .ok (.aload_n 0, 1) := by decide +kernel
theorem dX9_last_41 : decode cX9_last 41 = .ok (.iload_n 1, 1) := by decide +kernel
theorem dX9_last_42 : decode cX9_last 42 = .ok (.iload 6, 2) := by decide +kernel
theorem dX9_last_44 : decode cX9_last 44 = .ok (.invokevirtual 160, 3) := by decide +kernel
theorem dX9_last_47 : decode cX9_last 47 = .ok (.i2l, 1) := by decide +kernel
theorem dX9_last_48 : decode cX9_last 48 = .ok (.aload_n 0, 1) := by decide +kernel
theorem dX9_last_49 : decode cX9_last 49 = .ok (.iload_n 1, 1) := by decide +kernel
theorem dX9_last_50 : decode cX9_last 50 = .ok (.invokevirtual 152, 3) := by decide +kernel
theorem dX9_last_53 : decode cX9_last 53 = .ok (.i2l, 1) := by decide +kernel
theorem dX9_last_54 : decode cX9_last 54 = .ok (.invokestatic 179, 3) := by decide +kernel
theorem dX9_last_57 : decode cX9_last 57 = .ok (.aload_n 0, 1) := by decide +kernel
theorem dX9_last_58 : decode cX9_last 58 = .ok (.iload_n 1, 1) := by decide +kernel
theorem dX9_last_59 : decode cX9_last 59 = .ok (.invokevirtual 152, 3) := by decide +kernel
theorem dX9_last_62 : decode cX9_last 62 = .ok (.i2l, 1) := by decide +kernel
theorem dX9_last_63 : decode cX9_last 63 = .ok (.lsub, 1) := by decide +kernel
theorem dX9_last_64 : decode cX9_last 64 = .ok (.lstore 7, 2) := by decide +kernel
theorem dX9_last_66 : decode cX9_last 66 = .ok (.lload 7, 2) := by decide +kernel
theorem dX9_last_68 : decode cX9_last 68 = .ok (.lload 4, 2) := by decide +kernel
theorem dX9_last_70 : decode cX9_last 70 = .ok (.lcmp, 1) := by decide +kernel
theorem dX9_last_71 : decode cX9_last 71 = .ok (.ifCond .le 8, 3) := by decide +kernel
theorem dX9_last_74 : decode cX9_last 74 = .ok (.lload 7, 2) := by decide +kernel
theorem dX9_last_76 : decode cX9_last 76 = .ok (.goto 5, 3) := by decide +kernel
theorem dX9_last_79 : decode cX9_last 79 = .ok (.lload 4, 2) := by decide +kernel
theorem dX9_last_81 : decode cX9_last 81 = .ok (.lstore 4, 2) := by decide +kernel
theorem dX9_last_83 : decode cX9_last 83 = .ok (.iinc 6 1, 3) := by decide +kernel
theorem dX9_last_86 : decode cX9_last 86 = .ok (.goto (-59), 3) := by decide +kernel
theorem dX9_last_89 : decode cX9_last 89 = .ok (.lload 4, 2) := by decide +kernel
theorem dX9_last_91 : decode cX9_last 91 = .ok (.invokestatic 189, 3) := by decide +kernel
theorem dX9_last_94 : decode cX9_last 94 = .ok (.lreturn, 1) := by decide +kernel
theorem dX9_upTo_0 : decode cX9_upTo 0 = .ok (.lload_n 0, 1) := by decide +kernel
theorem dX9_upTo_1 : decode cX9_upTo 1 = .ok (.lload_n 2, 1) := by decide +kernel
theorem dX9_upTo_2 : decode cX9_upTo 2 = .ok (.lcmp, 1) := by decide +kernel
theorem dX9_upTo_3 : decode cX9_upTo 3 = .ok (.ifCond .ge 7, 3) := by decide +kernel
theorem dX9_upTo_6 : decode cX9_upTo 6 = .ok (.lconst 0, 1) := by decide +kernel
theorem dX9_upTo_7 : decode cX9_upTo 7 = .ok (.goto 11, 3) := by decide +kernel
theorem dX9_upTo_10 : decode cX9_upTo 10 = .ok (.lload_n 0, 1) := by decide +kernel
theorem dX9_upTo_11 : decode cX9_upTo 11 = .ok (.lload_n 2, 1) := by decide +kernel
theorem dX9_upTo_12 : decode cX9_upTo 12 = .ok (.lsub, 1) := by decide +kernel
theorem dX9_upTo_13 : decode cX9_upTo 13 = .ok (.lload 4, 2) := by decide +kernel
theorem dX9_upTo_15 : decode cX9_upTo 15 = .ok (.ldiv, 1) := by decide +kernel
theorem dX9_upTo_16 : decode cX9_upTo 16 = .ok (.lconst 1, 1) := by decide +kernel
theorem dX9_upTo_17 : decode cX9_upTo 17 = .ok (.ladd, 1) := by decide +kernel
theorem dX9_upTo_18 : decode cX9_upTo 18 = .ok (.lreturn, 1) := by decide +kernel
theorem dX9_manyBy_0 : decode cX9_manyBy 0 = .ok (.lload_n 2, 1) := by decide +kernel
theorem dX9_manyBy_1 : decode cX9_manyBy 1 = .ok (.lload 4, 2) := by decide +kernel
theorem dX9_manyBy_3 : decode cX9_manyBy 3 = .ok (.lload 6, 2) := by decide +kernel
theorem dX9_manyBy_5 : decode cX9_manyBy 5 = .ok (.invokestatic 193, 3) := by decide +kernel
theorem dX9_manyBy_8 : decode cX9_manyBy 8 = .ok (.lload_n 0, 1) := by decide +kernel
theorem dX9_manyBy_9 : decode cX9_manyBy 9 = .ok (.lconst 1, 1) := by decide +kernel
theorem dX9_manyBy_10 : decode cX9_manyBy 10 = .ok (.lsub, 1) := by decide +kernel
theorem dX9_manyBy_11 : decode cX9_manyBy 11 = .ok (.lload 4, 2) := by decide +kernel
theorem dX9_manyBy_13 : decode cX9_manyBy 13 = .ok (.lload 6, 2) := by decide +kernel
theorem dX9_manyBy_15 : decode cX9_manyBy 15 = .ok (.invokestatic 193, 3) := by decide +kernel
theorem dX9_manyBy_18 : decode cX9_manyBy 18 = .ok (.lsub, 1) := by decide +kernel
theorem dX9_manyBy_19 : decode cX9_manyBy 19 = .ok (.lreturn, 1) := by decide +kernel
theorem dX9_areDays_0 : decode cX9_areDays 0 = .ok (.lload_n 0, 1) := by decide +kernel
theorem dX9_areDays_1 : decode cX9_areDays 1 = .ok (.invokestatic 165, 3) := by decide +kernel
theorem dX9_areDays_4 : decode cX9_areDays 4 = .ok (.ifCond .eq 18, 3) := by decide +kernel
theorem dX9_areDays_7 : decode cX9_areDays 7 = .ok (.lload_n 2, 1) := by decide +kernel
theorem dX9_areDays_8 : decode cX9_areDays 8 = .ok (.lload_n 0, 1) := by decide +kernel
theorem dX9_areDays_9 : decode cX9_areDays 9 = .ok (.ldc2_w 163, 3) := by decide +kernel
theorem dX9_areDays_12 : decode cX9_areDays 12 = .ok (.invokestatic 71, 3) := by decide +kernel
theorem dX9_areDays_15 : decode cX9_areDays 15 = .ok (.ifCond .eq 7, 3) := by decide +kernel
theorem dX9_areDays_18 : decode cX9_areDays 18 = .ok (.iconst 1, 1) := by decide +kernel
theorem dX9_areDays_19 : decode cX9_areDays 19 = .ok (.goto 4, 3) := by decide +kernel
theorem dX9_areDays_22 : decode cX9_areDays 22 = .ok (.iconst 0, 1) := by decide +kernel
theorem dX9_areDays_23 : decode cX9_areDays 23 = .ok (.ireturn, 1) := by decide +kernel
theorem dX9_often_0 : decode cX9_often 0 = .ok (.aload_n 0, 1) := by decide +kernel
theorem dX9_often_1 : decode cX9_often 1 = .ok (.iload_n 1, 1) := by decide +kernel
theorem dX9_often_2 : decode cX9_often 2 = .ok (.invokevirtual 146, 3) := by decide +kernel
theorem dX9_often_5 : decode cX9_often 5 = .ok (.ifCond .eq 12, 3) := by decide +kernel
theorem dX9_often_8 : decode cX9_often 8 = .ok (.lload_n 2, 1) := by decide +kernel
theorem dX9_often_9 : decode cX9_often 9 = .ok (.lload 4, 2) := by decide +kernel
theorem dX9_often_11 : decode cX9_often 11 = .ok (.invokestatic 196, 3) := by decide +kernel
theorem dX9_often_14 : decode cX9_often 14 = .ok (.ifCond .ne 7, 3) := by decide +kernel
theorem dX9_often_17 : decode cX9_often 17 = .ok (.ldc2_w 177, 3) := by decide +kernel
theorem dX9_often_20 : decode cX9_often 20 = .ok (.lreturn, 1) := by decide +kernel
theorem dX9_often_21 : decode cX9_often 21 = .ok (.lconst 0, 1) := by decide +kernel
theorem dX9_often_22 : decode cX9_often 22 = .ok (.lstore 6, 2) := by decide +kernel
theorem dX9_often_24 : decode cX9_often 24 = .ok (.iconst 0, 1) := by decide +kernel
theorem dX9_often_25 : decode cX9_often 25 = .ok (.istore 8, 2) := by decide +kernel
theorem dX9_often_27 : decode cX9_often 27 = .ok (.iload 8, 2) := by decide +kernel
theorem dX9_often_29 : decode cX9_often 29 = .ok (.aload_n 0, 1) := by decide +kernel
theorem dX9_often_30 : decode cX9_often 30 = .ok (.iload_n 1, 1) := by decide +kernel
theorem dX9_often_31 : decode cX9_often 31 = .ok (.invokevirtual 157, 3) := by decide +kernel
theorem dX9_often_34 : decode cX9_often 34 = .ok (.if_icmp .ge 34, 3) := by decide +kernel
theorem dX9_often_37 : decode cX9_often 37 = .ok (.lload 6, 2) := by decide +kernel
theorem dX9_often_39 : decode cX9_often 39 = .ok (.lload_n 2, 1) := by decide +kernel
theorem dX9_often_40 : decode cX9_often 40 = .ok (.lload 4, 2) := by decide +kernel
theorem dX9_often_42 : decode cX9_often 42 = .ok (.aload_n 0, 1) := by decide +kernel
theorem dX9_often_43 : decode cX9_often 43 = .ok (.iload_n 1, 1) := by decide +kernel
theorem dX9_often_44 : decode cX9_often 44 = .ok (.iload 8, 2) := by decide +kernel
theorem dX9_often_46 : decode cX9_often 46 = .ok (.invokevirtual 160, 3) := by decide +kernel
theorem dX9_often_49 : decode cX9_often 49 = .ok (.i2l, 1) := by decide +kernel
theorem dX9_often_50 : decode cX9_often 50 = .ok (.aload_n 0, 1) := by decide +kernel
theorem dX9_often_51 : decode cX9_often 51 = .ok (.iload_n 1, 1) := by decide +kernel
theorem dX9_often_52 : decode cX9_often 52 = .ok (.invokevirtual 152, 3) := by decide +kernel
theorem dX9_often_55 : decode cX9_often 55 = .ok (.i2l, 1) := by decide +kernel
theorem dX9_often_56 : decode cX9_often 56 = .ok (.invokestatic 200, 3) := by decide +kernel
theorem dX9_often_59 : decode cX9_often 59 = .ok (.ladd, 1) := by decide +kernel
theorem dX9_often_60 : decode cX9_often 60 = .ok (.lstore 6, 2) := by decide +kernel
theorem dX9_often_62 : decode cX9_often 62 = .ok (.iinc 8 1, 3) := by decide +kernel
theorem dX9_often_65 : decode cX9_often 65 = .ok (.goto (-38), 3) := by decide +kernel
theorem dX9_often_68 : decode cX9_often 68 = .ok (.lload 6, 2) := by decide +kernel
theorem dX9_often_70 : decode cX9_often 70 = .ok (.lreturn, 1) := by decide +kernel
theorem dX9_common_0 : decode cX9_common 0 = .ok (.lload_n 0, 1) := by decide +kernel
theorem dX9_common_1 : decode cX9_common 1 = .ok (.lstore 4, 2) := by decide +kernel
theorem dX9_common_3 : decode cX9_common 3 = .ok (.lload_n 2, 1) := by decide +kernel
theorem dX9_common_4 : decode cX9_common 4 = .ok (.lstore 6, 2) := by decide +kernel
theorem dX9_common_6 : decode cX9_common 6 = .ok (.lload 6, 2) := by decide +kernel
theorem dX9_common_8 : decode cX9_common 8 = .ok (.lconst 0, 1) := by decide +kernel
theorem dX9_common_9 : decode cX9_common 9 = .ok (.lcmp, 1) := by decide +kernel
theorem dX9_common_10 : decode cX9_common 10 = .ok (.ifCond .eq 21, 3) := by decide +kernel
theorem dX9_common_13 : decode cX9_common 13 = .ok (.lload 4, 2) := by decide +kernel
theorem dX9_common_15 : decode cX9_common 15 = .ok (.lload 6, 2) := by decide +kernel
theorem dX9_common_17 : decode cX9_common 17 = .ok (.lrem, 1) := by decide +kernel
theorem dX9_common_18 : decode cX9_common 18 = .ok (.lstore 8, 2) := by decide +kernel
theorem dX9_common_20 : decode cX9_common 20 = .ok (.lload 6, 2) := by decide +kernel
theorem dX9_common_22 : decode cX9_common 22 = .ok (.lstore 4, 2) := by decide +kernel
theorem dX9_common_24 : decode cX9_common 24 = .ok (.lload 8, 2) := by decide +kernel
theorem dX9_common_26 : decode cX9_common 26 = .ok (.lstore 6, 2) := by decide +kernel
theorem dX9_common_28 : decode cX9_common 28 = .ok (.goto (-22), 3) := by decide +kernel
theorem dX9_common_31 : decode cX9_common 31 = .ok (.lload 4, 2) := by decide +kernel
theorem dX9_common_33 : decode cX9_common 33 = .ok (.lreturn, 1) := by decide +kernel
theorem dX9_multiple_0 : decode cX9_multiple 0 = .ok (.lload_n 0, 1) := by decide +kernel
theorem dX9_multiple_1 : decode cX9_multiple 1 = .ok (.lload_n 0, 1) := by decide +kernel
theorem dX9_multiple_2 : decode cX9_multiple 2 = .ok (.lload_n 2, 1) := by decide +kernel
theorem dX9_multiple_3 : decode cX9_multiple 3 = .ok (.invokestatic 204, 3) := by decide +kernel
theorem dX9_multiple_6 : decode cX9_multiple 6 = .ok (.ldiv, 1) := by decide +kernel
theorem dX9_multiple_7 : decode cX9_multiple 7 = .ok (.lload_n 2, 1) := by decide +kernel
theorem dX9_multiple_8 : decode cX9_multiple 8 = .ok (.lmul, 1) := by decide +kernel
theorem dX9_multiple_9 : decode cX9_multiple 9 = .ok (.lreturn, 1) := by decide +kernel
theorem dX9_startsRests_0 : decode cX9_startsRests 0 = .ok (.aload_n 0, 1) := by decide +kernel
theorem dX9_startsRests_1 : decode cX9_startsRests 1 = .ok (.getfield 24, 3) := by decide +kernel
theorem dX9_startsRests_4 : decode cX9_startsRests 4 = .ok (.iconst 0, 1) := by decide +kernel
theorem dX9_startsRests_5 : decode cX9_startsRests 5 = .ok (.lconst 0, 1) := by decide +kernel
theorem dX9_startsRests_6 : decode cX9_startsRests 6 = .ok (.lastore, 1) := by decide +kernel
theorem dX9_startsRests_7 : decode cX9_startsRests 7 = .ok (.aload_n 0, 1) := by decide +kernel
theorem dX9_startsRests_8 : decode cX9_startsRests 8 = .ok (.iconst 1, 1) := by decide +kernel
theorem dX9_startsRests_9 : decode cX9_startsRests 9 = .ok (.putfield 208, 3) := by decide +kernel
theorem dX9_startsRests_12 : decode cX9_startsRests 12 = .ok (.aload_n 0, 1) := by decide +kernel
theorem dX9_startsRests_13 : decode cX9_startsRests 13 = .ok (.lconst 1, 1) := by decide +kernel
theorem dX9_startsRests_14 : decode cX9_startsRests 14 = .ok (.putfield 211, 3) := by decide +kernel
theorem dX9_startsRests_17 : decode cX9_startsRests 17 = .ok (.return_, 1) := by decide +kernel
theorem dX9_joinsRests_0 : decode cX9_joinsRests 0 = .ok (.aload_n 0, 1) := by decide +kernel
theorem dX9_joinsRests_1 : decode cX9_joinsRests 1 = .ok (.getfield 211, 3) := by decide +kernel
theorem dX9_joinsRests_4 : decode cX9_joinsRests 4 = .ok (.aload_n 0, 1) := by decide +kernel
theorem dX9_joinsRests_5 : decode cX9_joinsRests 5 = .ok (.iload_n 1, 1) := by decide +kernel
theorem dX9_joinsRests_6 : decode cX9_joinsRests 6 = .ok (.invokevirtual 152, 3) := by decide +kernel
theorem dX9_joinsRests_9 : decode cX9_joinsRests 9 = .ok (.i2l, 1) := by decide +kernel
theorem dX9_joinsRests_10 : decode cX9_joinsRests 10 = .ok (.invokestatic 215, 3) := by decide +kernel
theorem dX9_joinsRests_13 : decode cX9_joinsRests 13 = .ok (.lstore_n 2, 1) := by decide +kernel
theorem dX9_joinsRests_14 : decode cX9_joinsRests 14 = .ok (.iconst 0, 1) := by decide +kernel
theorem dX9_joinsRests_15 : decode cX9_joinsRests 15 = .ok (.istore 4, 2) := by decide +kernel
theorem dX9_joinsRests_17 : decode cX9_joinsRests 17 = .ok (.iconst 0, 1) := by decide +kernel
theorem dX9_joinsRests_18 : decode cX9_joinsRests 18 = .ok (.istore 5, 2) := by decide +kernel
theorem dX9_joinsRests_20 : decode cX9_joinsRests 20 = .ok (.iload 5, 2) := by decide +kernel
theorem dX9_joinsRests_22 : decode cX9_joinsRests 22 = .ok (.aload_n 0, 1) := by decide +kernel
theorem dX9_joinsRests_23 : decode cX9_joinsRests 23 = .ok (.getfield 208, 3) := by decide +kernel
theorem dX9_joinsRests_26 : decode cX9_joinsRests 26 = .ok (.if_icmp .ge 96, 3) := by decide +kernel
theorem dX9_joinsRests_29 : decode cX9_joinsRests 29 = .ok (.iconst 0, 1) := by decide +kernel
theorem dX9_joinsRests_30 : decode cX9_joinsRests 30 = .ok (.istore 6, 2) := by decide +kernel
theorem dX9_joinsRests_32 : decode cX9_joinsRests 32 = .ok (.iload 6, 2) := by decide +kernel
theorem dX9_joinsRests_34 : decode cX9_joinsRests 34 = .ok (.aload_n 0, 1) := by decide +kernel
theorem dX9_joinsRests_35 : decode cX9_joinsRests 35 = .ok (.iload_n 1, 1) := by decide +kernel
theorem dX9_joinsRests_36 : decode cX9_joinsRests 36 = .ok (.invokevirtual 157, 3) := by decide +kernel
theorem dX9_joinsRests_39 : decode cX9_joinsRests 39 = .ok (.if_icmp .ge 77, 3) := by decide +kernel
theorem dX9_joinsRests_42 : decode cX9_joinsRests 42 = .ok (.aload_n 0, 1) := by decide +kernel
theorem dX9_joinsRests_43 : decode cX9_joinsRests 43 = .ok (.getfield 24, 3) := by decide +kernel
theorem dX9_joinsRests_46 : decode cX9_joinsRests 46 = .ok (.iload 5, 2) := by decide +kernel
theorem dX9_joinsRests_48 : decode cX9_joinsRests 48 = .ok (.laload, 1) := by decide +kernel
theorem dX9_joinsRests_49 : decode cX9_joinsRests 49 = .ok (.lstore 7, 2) := by decide +kernel
theorem dX9_joinsRests_51 : decode cX9_joinsRests 51 = .ok (.lload 7, 2) := by decide +kernel
theorem dX9_joinsRests_53 : decode cX9_joinsRests 53 = .ok (.lload_n 2, 1) := by decide +kernel
theorem dX9_joinsRests_54 : decode cX9_joinsRests 54 = .ok (.lcmp, 1) := by decide +kernel
theorem dX9_joinsRests_55 : decode cX9_joinsRests 55 = .ok (.ifCond .ge 36, 3) := by decide +kernel
theorem dX9_joinsRests_58 : decode cX9_joinsRests 58 = .ok (.lload 7, 2) := by decide +kernel
theorem dX9_joinsRests_60 : decode cX9_joinsRests 60 = .ok (.aload_n 0, 1) := by decide +kernel
theorem dX9_joinsRests_61 : decode cX9_joinsRests 61 = .ok (.iload_n 1, 1) := by decide +kernel
theorem dX9_joinsRests_62 : decode cX9_joinsRests 62 = .ok (.invokevirtual 152, 3) := by decide +kernel
theorem dX9_joinsRests_65 : decode cX9_joinsRests 65 = .ok (.i2l, 1) := by decide +kernel
theorem dX9_joinsRests_66 : decode cX9_joinsRests 66 = .ok (.lrem, 1) := by decide +kernel
theorem dX9_joinsRests_67 : decode cX9_joinsRests 67 = .ok (.aload_n 0, 1) := by decide +kernel
theorem dX9_joinsRests_68 : decode cX9_joinsRests 68 = .ok (.iload_n 1, 1) := by decide +kernel
theorem dX9_joinsRests_69 : decode cX9_joinsRests 69 = .ok (.iload 6, 2) := by decide +kernel
theorem dX9_joinsRests_71 : decode cX9_joinsRests 71 = .ok (.invokevirtual 160, 3) := by decide +kernel
theorem dX9_joinsRests_74 : decode cX9_joinsRests 74 = .ok (.i2l, 1) := by decide +kernel
theorem dX9_joinsRests_75 : decode cX9_joinsRests 75 = .ok (.lcmp, 1) := by decide +kernel
theorem dX9_joinsRests_76 : decode cX9_joinsRests 76 = .ok (.ifCond .eq 15, 3) := by decide +kernel
theorem dX9_joinsRests_79 : decode cX9_joinsRests 79 = .ok (.lload 7, 2) := by decide +kernel
theorem dX9_joinsRests_81 : decode cX9_joinsRests 81 = .ok (.aload_n 0, 1) := by decide +kernel
theorem dX9_joinsRests_82 : decode cX9_joinsRests 82 = .ok (.getfield 211, 3) := by decide +kernel
theorem dX9_joinsRests_85 : decode cX9_joinsRests 85 = .ok (.ladd, 1) := by decide +kernel
theorem dX9_joinsRests_86 : decode cX9_joinsRests 86 = .ok (.lstore 7, 2) := by decide +kernel
theorem dX9_joinsRests_88 : decode cX9_joinsRests 88 = .ok (.goto (-37), 3) := by decide +kernel
theorem dX9_joinsRests_91 : decode cX9_joinsRests 91 = .ok (.lload 7, 2) := by decide +kernel
theorem dX9_joinsRests_93 : decode cX9_joinsRests 93 = .ok (.lload_n 2, 1) := by decide +kernel
theorem dX9_joinsRests_94 : decode cX9_joinsRests 94 = .ok (.lcmp, 1) := by decide +kernel
theorem dX9_joinsRests_95 : decode cX9_joinsRests 95 = .ok (.ifCond .ge 15, 3) := by decide +kernel
theorem dX9_joinsRests_98 : decode cX9_joinsRests 98 = .ok (.aload_n 0, 1) := by decide +kernel
theorem dX9_joinsRests_99 : decode cX9_joinsRests 99 = .ok (.getfield 28, 3) := by decide +kernel
theorem dX9_joinsRests_102 : decode cX9_joinsRests 102 = .ok (.iload 4, 2) := by decide +kernel
theorem dX9_joinsRests_104 : decode cX9_joinsRests 104 = .ok (.lload 7, 2) := by decide +kernel
theorem dX9_joinsRests_106 : decode cX9_joinsRests 106 = .ok (.lastore, 1) := by decide +kernel
theorem dX9_joinsRests_107 : decode cX9_joinsRests 107 = .ok (.iinc 4 1, 3) := by decide +kernel
theorem dX9_joinsRests_110 : decode cX9_joinsRests 110 = .ok (.iinc 6 1, 3) := by decide +kernel
theorem dX9_joinsRests_113 : decode cX9_joinsRests 113 = .ok (.goto (-81), 3) := by decide +kernel
theorem dX9_joinsRests_116 : decode cX9_joinsRests 116 = .ok (.iinc 5 1, 3) := by decide +kernel
theorem dX9_joinsRests_119 : decode cX9_joinsRests 119 = .ok (.goto (-99), 3) := by decide +kernel
theorem dX9_joinsRests_122 : decode cX9_joinsRests 122 = .ok (.iconst 0, 1) := by decide +kernel
theorem dX9_joinsRests_123 : decode cX9_joinsRests 123 = .ok (.istore 5, 2) := by decide +kernel
theorem dX9_joinsRests_125 : decode cX9_joinsRests 125 = .ok (.iload 5, 2) := by decide +kernel
theorem dX9_joinsRests_127 : decode cX9_joinsRests 127 = .ok (.iload 4, 2) := by decide +kernel
theorem dX9_joinsRests_129 : decode cX9_joinsRests 129 = .ok (.if_icmp .ge 23, 3) := by decide +kernel
theorem dX9_joinsRests_132 : decode cX9_joinsRests 132 = .ok (.aload_n 0, 1) := by decide +kernel
theorem dX9_joinsRests_133 : decode cX9_joinsRests 133 = .ok (.getfield 24, 3) := by decide +kernel
theorem dX9_joinsRests_136 : decode cX9_joinsRests 136 = .ok (.iload 5, 2) := by decide +kernel
theorem dX9_joinsRests_138 : decode cX9_joinsRests 138 = .ok (.aload_n 0, 1) := by decide +kernel
theorem dX9_joinsRests_139 : decode cX9_joinsRests 139 = .ok (.getfield 28, 3) := by decide +kernel
theorem dX9_joinsRests_142 : decode cX9_joinsRests 142 = .ok (.iload 5, 2) := by decide +kernel
theorem dX9_joinsRests_144 : decode cX9_joinsRests 144 = .ok (.laload, 1) := by decide +kernel
theorem dX9_joinsRests_145 : decode cX9_joinsRests 145 = .ok (.lastore, 1) := by decide +kernel
theorem dX9_joinsRests_146 : decode cX9_joinsRests 146 = .ok (.iinc 5 1, 3) := by decide +kernel
theorem dX9_joinsRests_149 : decode cX9_joinsRests 149 = .ok (.goto (-24), 3) := by decide +kernel
theorem dX9_joinsRests_152 : decode cX9_joinsRests 152 = .ok (.aload_n 0, 1) := by decide +kernel
theorem dX9_joinsRests_153 : decode cX9_joinsRests 153 = .ok (.iload 4, 2) := by decide +kernel
theorem dX9_joinsRests_155 : decode cX9_joinsRests 155 = .ok (.putfield 208, 3) := by decide +kernel
theorem dX9_joinsRests_158 : decode cX9_joinsRests 158 = .ok (.aload_n 0, 1) := by decide +kernel
theorem dX9_joinsRests_159 : decode cX9_joinsRests 159 = .ok (.lload_n 2, 1) := by decide +kernel
theorem dX9_joinsRests_160 : decode cX9_joinsRests 160 = .ok (.putfield 211, 3) := by decide +kernel
theorem dX9_joinsRests_163 : decode cX9_joinsRests 163 = .ok (.return_, 1) := by decide +kernel
theorem dX9_findRests_0 : decode cX9_findRests 0 = .ok (.aload_n 0, 1) := by decide +kernel
theorem dX9_findRests_1 : decode cX9_findRests 1 = .ok (.invokevirtual 218, 3) := by decide +kernel
theorem dX9_findRests_4 : decode cX9_findRests 4 = .ok (.iconst 0, 1) := by decide +kernel
theorem dX9_findRests_5 : decode cX9_findRests 5 = .ok (.istore_n 2, 1) := by decide +kernel
theorem dX9_findRests_6 : decode cX9_findRests 6 = .ok (.iload_n 2, 1) := by decide +kernel
theorem dX9_findRests_7 : decode cX9_findRests 7 = .ok (.aload_n 0, 1) := by decide +kernel
theorem dX9_findRests_8 : decode cX9_findRests 8 = .ok (.getfield 7, 3) := by decide +kernel
theorem dX9_findRests_11 : decode cX9_findRests 11 = .ok (.iconst 0, 1) := by decide +kernel
theorem dX9_findRests_12 : decode cX9_findRests 12 = .ok (.iaload, 1) := by decide +kernel
theorem dX9_findRests_13 : decode cX9_findRests 13 = .ok (.if_icmp .ge 23, 3) := by decide +kernel
theorem dX9_findRests_16 : decode cX9_findRests 16 = .ok (.iload_n 1, 1) := by decide +kernel
theorem dX9_findRests_17 : decode cX9_findRests 17 = .ok (.iload_n 2, 1) := by decide +kernel
theorem dX9_findRests_18 : decode cX9_findRests 18 = .ok (.ishr, 1) := by decide +kernel
theorem dX9_findRests_19 : decode cX9_findRests 19 = .ok (.iconst 1, 1) := by decide +kernel
theorem dX9_findRests_20 : decode cX9_findRests 20 = .ok (.iand, 1) := by decide +kernel
theorem dX9_findRests_21 : decode cX9_findRests 21 = .ok (.iconst 1, 1) := by decide +kernel
theorem dX9_findRests_22 : decode cX9_findRests 22 = .ok (.if_icmp .ne 8, 3) := by decide +kernel
theorem dX9_findRests_25 : decode cX9_findRests 25 = .ok (.aload_n 0, 1) := by decide +kernel
theorem dX9_findRests_26 : decode cX9_findRests 26 = .ok (.iload_n 2, 1) := by decide +kernel
theorem dX9_findRests_27 : decode cX9_findRests 27 = .ok (.invokevirtual 221, 3) := by decide +kernel
theorem dX9_findRests_30 : decode cX9_findRests 30 = .ok (.iinc 2 1, 3) := by decide +kernel
theorem dX9_findRests_33 : decode cX9_findRests 33 = .ok (.goto (-27), 3) := by decide +kernel
theorem dX9_findRests_36 : decode cX9_findRests 36 = .ok (.return_, 1) := by decide +kernel
theorem dX9_firstOfRests_0 : decode cX9_firstOfRests 0 = .ok (.ldc2_w 177, 3) := by decide +kernel
theorem dX9_firstOfRests_3 : decode cX9_firstOfRests 3 = .ok (.lstore_n 3, 1) := by decide +kernel
theorem dX9_firstOfRests_4 : decode cX9_firstOfRests 4 = .ok (.iconst 0, 1) := by decide +kernel
theorem dX9_firstOfRests_5 : decode cX9_firstOfRests 5 = .ok (.istore 5, 2) := by decide +kernel
theorem dX9_firstOfRests_7 : decode cX9_firstOfRests 7 = .ok (.iload 5, 2) := by decide +kernel
theorem dX9_firstOfRests_9 : decode cX9_firstOfRests 9 = .ok (.aload_n 0, 1) := by decide +kernel
theorem dX9_firstOfRests_10 : decode cX9_firstOfRests 10 = .ok (.getfield 208, 3) := by decide +kernel
theorem dX9_firstOfRests_13 : decode cX9_firstOfRests 13 = .ok (.if_icmp .ge 46, 3) := by decide +kernel
theorem dX9_firstOfRests_16 : decode cX9_firstOfRests 16 = .ok (.lload_n 1, 1) := by decide +kernel
theorem dX9_firstOfRests_17 : decode cX9_firstOfRests 17 = .ok (.aload_n 0, 1) := by decide +kernel
theorem dX9_firstOfRests_18 : decode cX9_firstOfRests 18 = .ok (.getfield 24, 3) := by decide +kernel
theorem dX9_firstOfRests_21 : decode cX9_firstOfRests 21 = .ok (.iload 5, 2) := by decide +kernel
theorem dX9_firstOfRests_23 : decode cX9_firstOfRests 23 = .ok (.laload, 1) := by decide +kernel
theorem dX9_firstOfRests_24 : decode cX9_firstOfRests 24 = .ok (.aload_n 0, 1) := by decide +kernel
theorem dX9_firstOfRests_25 : decode cX9_firstOfRests 25 = .ok (.getfield 211, 3) := by decide +kernel
theorem dX9_firstOfRests_28 : decode cX9_firstOfRests 28 = .ok (.invokestatic 179, 3) := by decide +kernel
theorem dX9_firstOfRests_31 : decode cX9_firstOfRests 31 = .ok (.lstore 6, 2) := by decide +kernel
theorem dX9_firstOfRests_33 : decode cX9_firstOfRests 33 = .ok (.lload_n 3, 1) := by decide +kernel
theorem dX9_firstOfRests_34 : decode cX9_firstOfRests 34 = .ok (.lconst 0, 1) := by decide +kernel
theorem dX9_firstOfRests_35 : decode cX9_firstOfRests 35 = .ok (.lcmp, 1) := by decide +kernel
theorem dX9_firstOfRests_36 : decode cX9_firstOfRests 36 = .ok (.ifCond .lt 10, 3) := by decide +kernel
theorem dX9_firstOfRests_39 : decode cX9_firstOfRests 39 = .ok (.lload 6, 2) := by decide +kernel
theorem dX9_firstOfRests_41 : decode cX9_firstOfRests 41 = .ok (.lload_n 3, 1) := by decide +kernel
theorem dX9_firstOfRests_42 : decode cX9_firstOfRests 42 = .ok (.lcmp, 1) := by decide +kernel
theorem dX9_firstOfRests_43 : decode cX9_firstOfRests 43 = .ok (.ifCond .ge 8, 3) := by decide +kernel
theorem dX9_firstOfRests_46 : decode cX9_firstOfRests 46 = .ok (.lload 6, 2) := by decide +kernel
theorem dX9_firstOfRests_48 : decode cX9_firstOfRests 48 = .ok (.goto 4, 3) := by decide +kernel
theorem dX9_firstOfRests_51 : decode cX9_firstOfRests 51 = .ok (.lload_n 3, 1) := by decide +kernel
theorem dX9_firstOfRests_52 : decode cX9_firstOfRests 52 = .ok (.lstore_n 3, 1) := by decide +kernel
theorem dX9_firstOfRests_53 : decode cX9_firstOfRests 53 = .ok (.iinc 5 1, 3) := by decide +kernel
theorem dX9_firstOfRests_56 : decode cX9_firstOfRests 56 = .ok (.goto (-49), 3) := by decide +kernel
theorem dX9_firstOfRests_59 : decode cX9_firstOfRests 59 = .ok (.lload_n 3, 1) := by decide +kernel
theorem dX9_firstOfRests_60 : decode cX9_firstOfRests 60 = .ok (.lreturn, 1) := by decide +kernel
theorem dX9_areTwo_0 : decode cX9_areTwo 0 = .ok (.aload_n 0, 1) := by decide +kernel
theorem dX9_areTwo_1 : decode cX9_areTwo 1 = .ok (.iload_n 1, 1) := by decide +kernel
theorem dX9_areTwo_2 : decode cX9_areTwo 2 = .ok (.invokevirtual 146, 3) := by decide +kernel
theorem dX9_areTwo_5 : decode cX9_areTwo 5 = .ok (.ifCond .eq 20, 3) := by decide +kernel
theorem dX9_areTwo_8 : decode cX9_areTwo 8 = .ok (.aload_n 0, 1) := by decide +kernel
theorem dX9_areTwo_9 : decode cX9_areTwo 9 = .ok (.iload_n 2, 1) := by decide +kernel
theorem dX9_areTwo_10 : decode cX9_areTwo 10 = .ok (.invokevirtual 146, 3) := by decide +kernel
theorem dX9_areTwo_13 : decode cX9_areTwo 13 = .ok (.ifCond .eq 12, 3) := by decide +kernel
theorem dX9_areTwo_16 : decode cX9_areTwo 16 = .ok (.iload_n 1, 1) := by decide +kernel
theorem dX9_areTwo_17 : decode cX9_areTwo 17 = .ok (.iload_n 2, 1) := by decide +kernel
theorem dX9_areTwo_18 : decode cX9_areTwo 18 = .ok (.if_icmp .eq 7, 3) := by decide +kernel
theorem dX9_areTwo_21 : decode cX9_areTwo 21 = .ok (.iconst 1, 1) := by decide +kernel
theorem dX9_areTwo_22 : decode cX9_areTwo 22 = .ok (.goto 4, 3) := by decide +kernel
theorem dX9_areTwo_25 : decode cX9_areTwo 25 = .ok (.iconst 0, 1) := by decide +kernel
theorem dX9_areTwo_26 : decode cX9_areTwo 26 = .ok (.ireturn, 1) := by decide +kernel
theorem dX9_togetherOf_0 : decode cX9_togetherOf 0 = .ok (.aload_n 0, 1) := by decide +kernel
theorem dX9_togetherOf_1 : decode cX9_togetherOf 1 = .ok (.iconst 1, 1) := by decide +kernel
theorem dX9_togetherOf_2 : decode cX9_togetherOf 2 = .ok (.iload_n 1, 1) := by decide +kernel
theorem dX9_togetherOf_3 : decode cX9_togetherOf 3 = .ok (.ishl, 1) := by decide +kernel
theorem dX9_togetherOf_4 : decode cX9_togetherOf 4 = .ok (.iconst 1, 1) := by decide +kernel
theorem dX9_togetherOf_5 : decode cX9_togetherOf 5 = .ok (.iload_n 2, 1) := by decide +kernel
theorem dX9_togetherOf_6 : decode cX9_togetherOf 6 = .ok (.ishl, 1) := by decide +kernel
theorem dX9_togetherOf_7 : decode cX9_togetherOf 7 = .ok (.ior, 1) := by decide +kernel
theorem dX9_togetherOf_8 : decode cX9_togetherOf 8 = .ok (.invokevirtual 225, 3) := by decide +kernel
theorem dX9_togetherOf_11 : decode cX9_togetherOf 11 = .ok (.aload_n 0, 1) := by decide +kernel
theorem dX9_togetherOf_12 : decode cX9_togetherOf 12 = .ok (.lload_n 3, 1) := by decide +kernel
theorem dX9_togetherOf_13 : decode cX9_togetherOf 13 = .ok (.invokevirtual 228, 3) := by decide +kernel
theorem dX9_togetherOf_16 : decode cX9_togetherOf 16 = .ok (.lreturn, 1) := by decide +kernel
theorem dX9_together_0 : decode cX9_together 0 = .ok (.aload_n 0, 1) := by decide +kernel
theorem dX9_together_1 : decode cX9_together 1 = .ok (.iload_n 1, 1) := by decide +kernel
theorem dX9_together_2 : decode cX9_together 2 = .ok (.iload_n 2, 1) := by decide +kernel
theorem dX9_together_3 : decode cX9_together 3 = .ok (.invokevirtual 231, 3) := by decide +kernel
theorem dX9_together_6 : decode cX9_together 6 = .ok (.ifCond .eq 23, 3) := by decide +kernel
theorem dX9_together_9 : decode cX9_together 9 = .ok (.lload_n 3, 1) := by decide +kernel
theorem dX9_together_10 : decode cX9_together 10 = .ok (.invokestatic 165, 3) := by decide +kernel
theorem dX9_together_13 : decode cX9_together 13 = .ok (.ifCond .eq 16, 3) := by decide +kernel
theorem dX9_together_16 : decode cX9_together 16 = .ok (.aload_n 0, 1) := by decide +kernel
theorem dX9_together_17 : decode cX9_together 17 = .ok (.iload_n 1, 1) := by decide +kernel
theorem dX9_together_18 : decode cX9_together 18 = .ok (.iload_n 2, 1) := by decide +kernel
theorem dX9_together_19 : decode cX9_together 19 = .ok (.lload_n 3, 1) := by decide +kernel
theorem dX9_together_20 : decode cX9_together 20 = .ok (.invokevirtual 235, 3) := by decide +kernel
theorem dX9_together_23 : decode cX9_together 23 = .ok (.invokestatic 189, 3) := by decide +kernel
theorem dX9_together_26 : decode cX9_together 26 = .ok (.goto 6, 3) := by decide +kernel
theorem dX9_together_29 : decode cX9_together 29 = .ok (.ldc2_w 177, 3) := by decide +kernel
theorem dX9_together_32 : decode cX9_together 32 = .ok (.lreturn, 1) := by decide +kernel
theorem dX9_meetings_0 : decode cX9_meetings 0 = .ok (.aload_n 0, 1) := by decide +kernel
theorem dX9_meetings_1 : decode cX9_meetings 1 = .ok (.iload_n 1, 1) := by decide +kernel
theorem dX9_meetings_2 : decode cX9_meetings 2 = .ok (.iload_n 2, 1) := by decide +kernel
theorem dX9_meetings_3 : decode cX9_meetings 3 = .ok (.invokevirtual 231, 3) := by decide +kernel
theorem dX9_meetings_6 : decode cX9_meetings 6 = .ok (.ifCond .eq 12, 3) := by decide +kernel
theorem dX9_meetings_9 : decode cX9_meetings 9 = .ok (.lload_n 3, 1) := by decide +kernel
theorem dX9_meetings_10 : decode cX9_meetings 10 = .ok (.lload 5, 2) := by decide +kernel
theorem dX9_meetings_12 : decode cX9_meetings 12 = .ok (.invokestatic 196, 3) := by decide +kernel
theorem dX9_meetings_15 : decode cX9_meetings 15 = .ok (.ifCond .ne 7, 3) := by decide +kernel
theorem dX9_meetings_18 : decode cX9_meetings 18 = .ok (.ldc2_w 177, 3) := by decide +kernel
theorem dX9_meetings_21 : decode cX9_meetings 21 = .ok (.lreturn, 1) := by decide +kernel
theorem dX9_meetings_22 : decode cX9_meetings 22 = .ok (.aload_n 0, 1) := by decide +kernel
theorem dX9_meetings_23 : decode cX9_meetings 23 = .ok (.iconst 1, 1) := by decide +kernel
theorem dX9_meetings_24 : decode cX9_meetings 24 = .ok (.iload_n 1, 1) := by decide +kernel
theorem dX9_meetings_25 : decode cX9_meetings 25 = .ok (.ishl, 1) := by decide +kernel
theorem dX9_meetings_26 : decode cX9_meetings 26 = .ok (.iconst 1, 1) := by decide +kernel
theorem dX9_meetings_27 : decode cX9_meetings 27 = .ok (.iload_n 2, 1) := by decide +kernel
theorem dX9_meetings_28 : decode cX9_meetings 28 = .ok (.ishl, 1) := by decide +kernel
theorem dX9_meetings_29 : decode cX9_meetings 29 = .ok (.ior, 1) := by decide +kernel
theorem dX9_meetings_30 : decode cX9_meetings 30 = .ok (.invokevirtual 225, 3) := by decide +kernel
theorem dX9_meetings_33 : decode cX9_meetings 33 = .ok (.lconst 0, 1) := by decide +kernel
theorem dX9_meetings_34 : decode cX9_meetings 34 = .ok (.lstore 7, 2) := by decide +kernel
theorem dX9_meetings_36 : decode cX9_meetings 36 = .ok (.iconst 0, 1) := by decide +kernel
theorem dX9_meetings_37 : decode cX9_meetings 37 = .ok (.istore 9, 2) := by decide +kernel
theorem dX9_meetings_39 : decode cX9_meetings 39 = .ok (.iload 9, 2) := by decide +kernel
theorem dX9_meetings_41 : decode cX9_meetings 41 = .ok (.aload_n 0, 1) := by decide +kernel
theorem dX9_meetings_42 : decode cX9_meetings 42 = .ok (.getfield 208, 3) := by decide +kernel
theorem dX9_meetings_45 : decode cX9_meetings 45 = .ok (.if_icmp .ge 31, 3) := by decide +kernel
theorem dX9_meetings_48 : decode cX9_meetings 48 = .ok (.lload 7, 2) := by decide +kernel
theorem dX9_meetings_50 : decode cX9_meetings 50 = .ok (.lload_n 3, 1) := by decide +kernel
theorem dX9_meetings_51 : decode cX9_meetings 51 = .ok (.lload 5, 2) := by decide +kernel
theorem dX9_meetings_53 : decode cX9_meetings 53 = .ok (.aload_n 0, 1) := by decide +kernel
theorem dX9_meetings_54 : decode cX9_meetings 54 = .ok (.getfield 24, 3) := by decide +kernel
theorem dX9_meetings_57 : decode cX9_meetings 57 = .ok (.iload 9, 2) := by decide +kernel
theorem dX9_meetings_59 : decode cX9_meetings 59 = .ok (.laload, 1) := by decide +kernel
theorem dX9_meetings_60 : decode cX9_meetings 60 = .ok (.aload_n 0, 1) := by decide +kernel
theorem dX9_meetings_61 : decode cX9_meetings 61 = .ok (.getfield 211, 3) := by decide +kernel
theorem dX9_meetings_64 : decode cX9_meetings 64 = .ok (.invokestatic 200, 3) := by decide +kernel
theorem dX9_meetings_67 : decode cX9_meetings 67 = .ok (.ladd, 1) := by decide +kernel
theorem dX9_meetings_68 : decode cX9_meetings 68 = .ok (.lstore 7, 2) := by decide +kernel
theorem dX9_meetings_70 : decode cX9_meetings 70 = .ok (.iinc 9 1, 3) := by decide +kernel
theorem dX9_meetings_73 : decode cX9_meetings 73 = .ok (.goto (-34), 3) := by decide +kernel
theorem dX9_meetings_76 : decode cX9_meetings 76 = .ok (.lload 7, 2) := by decide +kernel
theorem dX9_meetings_78 : decode cX9_meetings 78 = .ok (.lreturn, 1) := by decide +kernel
theorem dX9_areSome_0 : decode cX9_areSome 0 = .ok (.iload_n 1, 1) := by decide +kernel
theorem dX9_areSome_1 : decode cX9_areSome 1 = .ok (.i2l, 1) := by decide +kernel
theorem dX9_areSome_2 : decode cX9_areSome 2 = .ok (.lconst 1, 1) := by decide +kernel
theorem dX9_areSome_3 : decode cX9_areSome 3 = .ok (.iconst 1, 1) := by decide +kernel
theorem dX9_areSome_4 : decode cX9_areSome 4 = .ok (.aload_n 0, 1) := by decide +kernel
theorem dX9_areSome_5 : decode cX9_areSome 5 = .ok (.getfield 7, 3) := by decide +kernel
theorem dX9_areSome_8 : decode cX9_areSome 8 = .ok (.iconst 0, 1) := by decide +kernel
theorem dX9_areSome_9 : decode cX9_areSome 9 = .ok (.iaload, 1) := by decide +kernel
theorem dX9_areSome_10 : decode cX9_areSome 10 = .ok (.ishl, 1) := by decide +kernel
theorem dX9_areSome_11 : decode cX9_areSome 11 = .ok (.iconst 1, 1) := by decide +kernel
theorem dX9_areSome_12 : decode cX9_areSome 12 = .ok (.isub, 1) := by decide +kernel
theorem dX9_areSome_13 : decode cX9_areSome 13 = .ok (.i2l, 1) := by decide +kernel
theorem dX9_areSome_14 : decode cX9_areSome 14 = .ok (.invokestatic 71, 3) := by decide +kernel
theorem dX9_areSome_17 : decode cX9_areSome 17 = .ok (.ireturn, 1) := by decide +kernel
theorem dX9_all_0 : decode cX9_all 0 = .ok (.aload_n 0, 1) := by decide +kernel
theorem dX9_all_1 : decode cX9_all 1 = .ok (.iload_n 1, 1) := by decide +kernel
theorem dX9_all_2 : decode cX9_all 2 = .ok (.invokevirtual 239, 3) := by decide +kernel
theorem dX9_all_5 : decode cX9_all 5 = .ok (.ifCond .eq 10, 3) := by decide +kernel
theorem dX9_all_8 : decode cX9_all 8 = .ok (.lload_n 2, 1) := by decide +kernel
theorem dX9_all_9 : decode cX9_all 9 = .ok (.invokestatic 165, 3) := by decide +kernel
theorem dX9_all_12 : decode cX9_all 12 = .ok (.ifCond .ne 7, 3) := by decide +kernel
theorem dX9_all_15 : decode cX9_all 15 = .ok (.ldc2_w 177, 3) := by decide +kernel
theorem dX9_all_18 : decode cX9_all 18 = .ok (.lreturn, 1) := by decide +kernel
theorem dX9_all_19 : decode cX9_all 19 = .ok (.aload_n 0, 1) := by decide +kernel
theorem dX9_all_20 : decode cX9_all 20 = .ok (.iload_n 1, 1) := by decide +kernel
theorem dX9_all_21 : decode cX9_all 21 = .ok (.invokevirtual 225, 3) := by decide +kernel
theorem dX9_all_24 : decode cX9_all 24 = .ok (.aload_n 0, 1) := by decide +kernel
theorem dX9_all_25 : decode cX9_all 25 = .ok (.lload_n 2, 1) := by decide +kernel
theorem dX9_all_26 : decode cX9_all 26 = .ok (.invokevirtual 228, 3) := by decide +kernel
theorem dX9_all_29 : decode cX9_all 29 = .ok (.invokestatic 189, 3) := by decide +kernel
theorem dX9_all_32 : decode cX9_all 32 = .ok (.lreturn, 1) := by decide +kernel
theorem dX9_cycle_0 : decode cX9_cycle 0 = .ok (.aload_n 0, 1) := by decide +kernel
theorem dX9_cycle_1 : decode cX9_cycle 1 = .ok (.iload_n 1, 1) := by decide +kernel
theorem dX9_cycle_2 : decode cX9_cycle 2 = .ok (.invokevirtual 239, 3) := by decide +kernel
theorem dX9_cycle_5 : decode cX9_cycle 5 = .ok (.ifCond .ne 7, 3) := by decide +kernel
theorem dX9_cycle_8 : decode cX9_cycle 8 = .ok (.ldc2_w 177, 3) := by decide +kernel
theorem dX9_cycle_11 : decode cX9_cycle 11 = .ok (.lreturn, 1) := by decide +kernel
theorem dX9_cycle_12 : decode cX9_cycle 12 = .ok (.lconst 1, 1) := by decide +kernel
theorem dX9_cycle_13 : decode cX9_cycle 13 = .ok (.lstore_n 2, 1) := by decide +kernel
theorem dX9_cycle_14 : decode cX9_cycle 14 = .ok (.iconst 0, 1) := by decide +kernel
theorem dX9_cycle_15 : decode cX9_cycle 15 = .ok (.istore 4, 2) := by decide +kernel
theorem dX9_cycle_17 : decode cX9_cycle 17 = .ok (.iload 4, 2) := by decide +kernel
theorem dX9_cycle_19 : decode cX9_cycle 19 = .ok (.aload_n 0, 1) := by decide +kernel
theorem dX9_cycle_20 : decode cX9_cycle 20 = .ok (.getfield 7, 3) := by decide +kernel
theorem dX9_cycle_23 : decode cX9_cycle 23 = .ok (.iconst 0, 1) := by decide +kernel
theorem dX9_cycle_24 : decode cX9_cycle 24 = .ok (.iaload, 1) := by decide +kernel
theorem dX9_cycle_25 : decode cX9_cycle 25 = .ok (.if_icmp .ge 35, 3) := by decide +kernel
theorem dX9_cycle_28 : decode cX9_cycle 28 = .ok (.iload_n 1, 1) := by decide +kernel
theorem dX9_cycle_29 : decode cX9_cycle 29 = .ok (.iload 4, 2) := by decide +kernel
theorem dX9_cycle_31 : decode cX9_cycle 31 = .ok (.ishr, 1) := by decide +kernel
theorem dX9_cycle_32 : decode cX9_cycle 32 = .ok (.iconst 1, 1) := by decide +kernel
theorem dX9_cycle_33 : decode cX9_cycle 33 = .ok (.iand, 1) := by decide +kernel
theorem dX9_cycle_34 : decode cX9_cycle 34 = .ok (.iconst 1, 1) := by decide +kernel
theorem dX9_cycle_35 : decode cX9_cycle 35 = .ok (.if_icmp .ne 17, 3) := by decide +kernel
theorem dX9_cycle_38 : decode cX9_cycle 38 = .ok (.lload_n 2, 1) := by decide +kernel
theorem dX9_cycle_39 : decode cX9_cycle 39 = .ok (.aload_n 0, 1) := by decide +kernel
theorem dX9_cycle_40 : decode cX9_cycle 40 = .ok (.iload 4, 2) := by decide +kernel
theorem dX9_cycle_42 : decode cX9_cycle 42 = .ok (.invokevirtual 152, 3) := by decide +kernel
theorem dX9_cycle_45 : decode cX9_cycle 45 = .ok (.i2l, 1) := by decide +kernel
theorem dX9_cycle_46 : decode cX9_cycle 46 = .ok (.invokestatic 215, 3) := by decide +kernel
theorem dX9_cycle_49 : decode cX9_cycle 49 = .ok (.goto 4, 3) := by decide +kernel
theorem dX9_cycle_52 : decode cX9_cycle 52 = .ok (.lload_n 2, 1) := by decide +kernel
theorem dX9_cycle_53 : decode cX9_cycle 53 = .ok (.lstore_n 2, 1) := by decide +kernel
theorem dX9_cycle_54 : decode cX9_cycle 54 = .ok (.iinc 4 1, 3) := by decide +kernel
theorem dX9_cycle_57 : decode cX9_cycle 57 = .ok (.goto (-40), 3) := by decide +kernel
theorem dX9_cycle_60 : decode cX9_cycle 60 = .ok (.lload_n 2, 1) := by decide +kernel
theorem dX9_cycle_61 : decode cX9_cycle 61 = .ok (.lreturn, 1) := by decide +kernel
theorem dX9_doCrash_0 : decode cX9_doCrash 0 = .ok (.iload_n 1, 1) := by decide +kernel
theorem dX9_doCrash_1 : decode cX9_doCrash 1 = .ok (.iload_n 2, 1) := by decide +kernel
theorem dX9_doCrash_2 : decode cX9_doCrash 2 = .ok (.if_icmp .eq 18, 3) := by decide +kernel
theorem dX9_doCrash_5 : decode cX9_doCrash 5 = .ok (.aload_n 0, 1) := by decide +kernel
theorem dX9_doCrash_6 : decode cX9_doCrash 6 = .ok (.iload_n 1, 1) := by decide +kernel
theorem dX9_doCrash_7 : decode cX9_doCrash 7 = .ok (.iconst 3, 1) := by decide +kernel
theorem dX9_doCrash_8 : decode cX9_doCrash 8 = .ok (.invokevirtual 143, 3) := by decide +kernel
theorem dX9_doCrash_11 : decode cX9_doCrash 11 = .ok (.aload_n 0, 1) := by decide +kernel
theorem dX9_doCrash_12 : decode cX9_doCrash 12 = .ok (.iload_n 2, 1) := by decide +kernel
theorem dX9_doCrash_13 : decode cX9_doCrash 13 = .ok (.iconst 3, 1) := by decide +kernel
theorem dX9_doCrash_14 : decode cX9_doCrash 14 = .ok (.invokevirtual 143, 3) := by decide +kernel
theorem dX9_doCrash_17 : decode cX9_doCrash 17 = .ok (.if_icmp .eq 5, 3) := by decide +kernel
theorem dX9_doCrash_20 : decode cX9_doCrash 20 = .ok (.iconst 0, 1) := by decide +kernel
theorem dX9_doCrash_21 : decode cX9_doCrash 21 = .ok (.ireturn, 1) := by decide +kernel
theorem dX9_doCrash_22 : decode cX9_doCrash 22 = .ok (.aload_n 0, 1) := by decide +kernel
theorem dX9_doCrash_23 : decode cX9_doCrash 23 = .ok (.iload_n 1, 1) := by decide +kernel
theorem dX9_doCrash_24 : decode cX9_doCrash 24 = .ok (.invokevirtual 152, 3) := by decide +kernel
theorem dX9_doCrash_27 : decode cX9_doCrash 27 = .ok (.i2l, 1) := by decide +kernel
theorem dX9_doCrash_28 : decode cX9_doCrash 28 = .ok (.aload_n 0, 1) := by decide +kernel
theorem dX9_doCrash_29 : decode cX9_doCrash 29 = .ok (.iload_n 2, 1) := by decide +kernel
theorem dX9_doCrash_30 : decode cX9_doCrash 30 = .ok (.invokevirtual 152, 3) := by decide +kernel
theorem dX9_doCrash_33 : decode cX9_doCrash 33 = .ok (.i2l, 1) := by decide +kernel
theorem dX9_doCrash_34 : decode cX9_doCrash 34 = .ok (.invokestatic 204, 3) := by decide +kernel
theorem dX9_doCrash_37 : decode cX9_doCrash 37 = .ok (.l2i, 1) := by decide +kernel
theorem dX9_doCrash_38 : decode cX9_doCrash 38 = .ok (.istore_n 3, 1) := by decide +kernel
theorem dX9_doCrash_39 : decode cX9_doCrash 39 = .ok (.iconst 0, 1) := by decide +kernel
theorem dX9_doCrash_40 : decode cX9_doCrash 40 = .ok (.istore 4, 2) := by decide +kernel
theorem dX9_doCrash_42 : decode cX9_doCrash 42 = .ok (.iconst 0, 1) := by decide +kernel
theorem dX9_doCrash_43 : decode cX9_doCrash 43 = .ok (.istore 5, 2) := by decide +kernel
theorem dX9_doCrash_45 : decode cX9_doCrash 45 = .ok (.iload 5, 2) := by decide +kernel
theorem dX9_doCrash_47 : decode cX9_doCrash 47 = .ok (.aload_n 0, 1) := by decide +kernel
theorem dX9_doCrash_48 : decode cX9_doCrash 48 = .ok (.iload_n 1, 1) := by decide +kernel
theorem dX9_doCrash_49 : decode cX9_doCrash 49 = .ok (.invokevirtual 157, 3) := by decide +kernel
theorem dX9_doCrash_52 : decode cX9_doCrash 52 = .ok (.if_icmp .ge 60, 3) := by decide +kernel
theorem dX9_doCrash_55 : decode cX9_doCrash 55 = .ok (.iconst 0, 1) := by decide +kernel
theorem dX9_doCrash_56 : decode cX9_doCrash 56 = .ok (.istore 6, 2) := by decide +kernel
theorem dX9_doCrash_58 : decode cX9_doCrash 58 = .ok (.iload 6, 2) := by decide +kernel
theorem dX9_doCrash_60 : decode cX9_doCrash 60 = .ok (.aload_n 0, 1) := by decide +kernel
theorem dX9_doCrash_61 : decode cX9_doCrash 61 = .ok (.iload_n 2, 1) := by decide +kernel
theorem dX9_doCrash_62 : decode cX9_doCrash 62 = .ok (.invokevirtual 157, 3) := by decide +kernel
theorem dX9_doCrash_65 : decode cX9_doCrash 65 = .ok (.if_icmp .ge 41, 3) := by decide +kernel
theorem dX9_doCrash_68 : decode cX9_doCrash 68 = .ok (.iload 4, 2) := by decide +kernel
theorem dX9_doCrash_70 : decode cX9_doCrash 70 = .ok (.ifCond .ne 23, 3) := by decide +kernel
theorem dX9_doCrash_73 : decode cX9_doCrash 73 = .ok (.aload_n 0, 1) := by decide +kernel
theorem dX9_doCrash_74 : decode cX9_doCrash 74 = .ok (.iload_n 1, 1) := by decide +kernel
theorem dX9_doCrash_75 : decode cX9_doCrash 75 = .ok (.iload 5, 2) := by decide +kernel
theorem dX9_doCrash_77 : decode cX9_doCrash 77 = .ok (.invokevirtual 160, 3) := by decide +kernel
theorem dX9_doCrash_80 : decode cX9_doCrash 80 = .ok (.aload_n 0, 1) := by decide +kernel
theorem dX9_doCrash_81 : decode cX9_doCrash 81 = .ok (.iload_n 2, 1) := by decide +kernel
theorem dX9_doCrash_82 : decode cX9_doCrash 82 = .ok (.iload 6, 2) := by decide +kernel
theorem dX9_doCrash_84 : decode cX9_doCrash 84 = .ok (.invokevirtual 160, 3) := by decide +kernel
theorem dX9_doCrash_87 : decode cX9_doCrash 87 = .ok (.isub, 1) := by decide +kernel
theorem dX9_doCrash_88 : decode cX9_doCrash 88 = .ok (.iload_n 3, 1) := by decide +kernel
theorem dX9_doCrash_89 : decode cX9_doCrash 89 = .ok (.irem, 1) := by decide +kernel
theorem dX9_doCrash_90 : decode cX9_doCrash 90 = .ok (.ifCond .ne 7, 3) := by decide +kernel
theorem dX9_doCrash_93 : decode cX9_doCrash 93 = .ok (.iconst 1, 1) := by decide +kernel
theorem dX9_doCrash_94 : decode cX9_doCrash 94 = .ok (.goto 4, 3) := by decide +kernel
theorem dX9_doCrash_97 : decode cX9_doCrash 97 = .ok (.iconst 0, 1) := by decide +kernel
theorem dX9_doCrash_98 : decode cX9_doCrash 98 = .ok (.istore 4, 2) := by decide +kernel
theorem dX9_doCrash_100 : decode cX9_doCrash 100 = .ok (.iinc 6 1, 3) := by decide +kernel
theorem dX9_doCrash_103 : decode cX9_doCrash 103 = .ok (.goto (-45), 3) := by decide +kernel
theorem dX9_doCrash_106 : decode cX9_doCrash 106 = .ok (.iinc 5 1, 3) := by decide +kernel
theorem dX9_doCrash_109 : decode cX9_doCrash 109 = .ok (.goto (-64), 3) := by decide +kernel
theorem dX9_doCrash_112 : decode cX9_doCrash 112 = .ok (.iload 4, 2) := by decide +kernel
theorem dX9_doCrash_114 : decode cX9_doCrash 114 = .ok (.ireturn, 1) := by decide +kernel
theorem dX9_crashOf_0 : decode cX9_crashOf 0 = .ok (.iconst 0, 1) := by decide +kernel
theorem dX9_crashOf_1 : decode cX9_crashOf 1 = .ok (.istore_n 2, 1) := by decide +kernel
theorem dX9_crashOf_2 : decode cX9_crashOf 2 = .ok (.iconst 0, 1) := by decide +kernel
theorem dX9_crashOf_3 : decode cX9_crashOf 3 = .ok (.istore_n 3, 1) := by decide +kernel
theorem dX9_crashOf_4 : decode cX9_crashOf 4 = .ok (.iload_n 3, 1) := by decide +kernel
theorem dX9_crashOf_5 : decode cX9_crashOf 5 = .ok (.aload_n 0, 1) := by decide +kernel
theorem dX9_crashOf_6 : decode cX9_crashOf 6 = .ok (.getfield 7, 3) := by decide +kernel
theorem dX9_crashOf_9 : decode cX9_crashOf 9 = .ok (.iconst 0, 1) := by decide +kernel
theorem dX9_crashOf_10 : decode cX9_crashOf 10 = .ok (.iaload, 1) := by decide +kernel
theorem dX9_crashOf_11 : decode cX9_crashOf 11 = .ok (.if_icmp .ge 23, 3) := by decide +kernel
theorem dX9_crashOf_14 : decode cX9_crashOf 14 = .ok (.iload_n 2, 1) := by decide +kernel
theorem dX9_crashOf_15 : decode cX9_crashOf 15 = .ok (.aload_n 0, 1) := by decide +kernel
theorem dX9_crashOf_16 : decode cX9_crashOf 16 = .ok (.iload_n 1, 1) := by decide +kernel
theorem dX9_crashOf_17 : decode cX9_crashOf 17 = .ok (.iload_n 3, 1) := by decide +kernel
theorem dX9_crashOf_18 : decode cX9_crashOf 18 = .ok (.invokevirtual 242, 3) := by decide +kernel
theorem dX9_crashOf_21 : decode cX9_crashOf 21 = .ok (.invokestatic 173, 3) := by decide +kernel
theorem dX9_crashOf_24 : decode cX9_crashOf 24 = .ok (.iload_n 3, 1) := by decide +kernel
theorem dX9_crashOf_25 : decode cX9_crashOf 25 = .ok (.ishl, 1) := by decide +kernel
theorem dX9_crashOf_26 : decode cX9_crashOf 26 = .ok (.ior, 1) := by decide +kernel
theorem dX9_crashOf_27 : decode cX9_crashOf 27 = .ok (.istore_n 2, 1) := by decide +kernel
theorem dX9_crashOf_28 : decode cX9_crashOf 28 = .ok (.iinc 3 1, 3) := by decide +kernel
theorem dX9_crashOf_31 : decode cX9_crashOf 31 = .ok (.goto (-27), 3) := by decide +kernel
theorem dX9_crashOf_34 : decode cX9_crashOf 34 = .ok (.iload_n 2, 1) := by decide +kernel
theorem dX9_crashOf_35 : decode cX9_crashOf 35 = .ok (.ireturn, 1) := by decide +kernel
theorem dX9_crash_0 : decode cX9_crash 0 = .ok (.aload_n 0, 1) := by decide +kernel
theorem dX9_crash_1 : decode cX9_crash 1 = .ok (.iload_n 1, 1) := by decide +kernel
theorem dX9_crash_2 : decode cX9_crash 2 = .ok (.invokevirtual 146, 3) := by decide +kernel
theorem dX9_crash_5 : decode cX9_crash 5 = .ok (.ifCond .eq 11, 3) := by decide +kernel
theorem dX9_crash_8 : decode cX9_crash 8 = .ok (.aload_n 0, 1) := by decide +kernel
theorem dX9_crash_9 : decode cX9_crash 9 = .ok (.iload_n 1, 1) := by decide +kernel
theorem dX9_crash_10 : decode cX9_crash 10 = .ok (.invokevirtual 245, 3) := by decide +kernel
theorem dX9_crash_13 : decode cX9_crash 13 = .ok (.goto 4, 3) := by decide +kernel
theorem dX9_crash_16 : decode cX9_crash 16 = .ok (.iconst (-1), 1) := by decide +kernel
theorem dX9_crash_17 : decode cX9_crash 17 = .ok (.ireturn, 1) := by decide +kernel
theorem dX9_allCrash_0 : decode cX9_allCrash 0 = .ok (.iconst 0, 1) := by decide +kernel
theorem dX9_allCrash_1 : decode cX9_allCrash 1 = .ok (.istore_n 1, 1) := by decide +kernel
theorem dX9_allCrash_2 : decode cX9_allCrash 2 = .ok (.iconst 0, 1) := by decide +kernel
theorem dX9_allCrash_3 : decode cX9_allCrash 3 = .ok (.istore_n 2, 1) := by decide +kernel
theorem dX9_allCrash_4 : decode cX9_allCrash 4 = .ok (.iload_n 2, 1) := by decide +kernel
theorem dX9_allCrash_5 : decode cX9_allCrash 5 = .ok (.aload_n 0, 1) := by decide +kernel
theorem dX9_allCrash_6 : decode cX9_allCrash 6 = .ok (.getfield 7, 3) := by decide +kernel
theorem dX9_allCrash_9 : decode cX9_allCrash 9 = .ok (.iconst 0, 1) := by decide +kernel
theorem dX9_allCrash_10 : decode cX9_allCrash 10 = .ok (.iaload, 1) := by decide +kernel
theorem dX9_allCrash_11 : decode cX9_allCrash 11 = .ok (.if_icmp .ge 30, 3) := by decide +kernel
theorem dX9_allCrash_14 : decode cX9_allCrash 14 = .ok (.iload_n 1, 1) := by decide +kernel
theorem dX9_allCrash_15 : decode cX9_allCrash 15 = .ok (.aload_n 0, 1) := by decide +kernel
theorem dX9_allCrash_16 : decode cX9_allCrash 16 = .ok (.iload_n 2, 1) := by decide +kernel
theorem dX9_allCrash_17 : decode cX9_allCrash 17 = .ok (.invokevirtual 245, 3) := by decide +kernel
theorem dX9_allCrash_20 : decode cX9_allCrash 20 = .ok (.ifCond .eq 7, 3) := by decide +kernel
theorem dX9_allCrash_23 : decode cX9_allCrash 23 = .ok (.iconst 1, 1) := by decide +kernel
theorem dX9_allCrash_24 : decode cX9_allCrash 24 = .ok (.goto 4, 3) := by decide +kernel
theorem dX9_allCrash_27 : decode cX9_allCrash 27 = .ok (.iconst 0, 1) := by decide +kernel
theorem dX9_allCrash_28 : decode cX9_allCrash 28 = .ok (.invokestatic 173, 3) := by decide +kernel
theorem dX9_allCrash_31 : decode cX9_allCrash 31 = .ok (.iload_n 2, 1) := by decide +kernel
theorem dX9_allCrash_32 : decode cX9_allCrash 32 = .ok (.ishl, 1) := by decide +kernel
theorem dX9_allCrash_33 : decode cX9_allCrash 33 = .ok (.ior, 1) := by decide +kernel
theorem dX9_allCrash_34 : decode cX9_allCrash 34 = .ok (.istore_n 1, 1) := by decide +kernel
theorem dX9_allCrash_35 : decode cX9_allCrash 35 = .ok (.iinc 2 1, 3) := by decide +kernel
theorem dX9_allCrash_38 : decode cX9_allCrash 38 = .ok (.goto (-34), 3) := by decide +kernel
theorem dX9_allCrash_41 : decode cX9_allCrash 41 = .ok (.iload_n 1, 1) := by decide +kernel
theorem dX9_allCrash_42 : decode cX9_allCrash 42 = .ok (.ireturn, 1) := by decide +kernel
theorem dX9_bitsOf_0 : decode cX9_bitsOf 0 = .ok (.iconst 0, 1) := by decide +kernel
theorem dX9_bitsOf_1 : decode cX9_bitsOf 1 = .ok (.istore_n 1, 1) := by decide +kernel
theorem dX9_bitsOf_2 : decode cX9_bitsOf 2 = .ok (.iconst 0, 1) := by decide +kernel
theorem dX9_bitsOf_3 : decode cX9_bitsOf 3 = .ok (.istore_n 2, 1) := by decide +kernel
theorem dX9_bitsOf_4 : decode cX9_bitsOf 4 = .ok (.iload_n 2, 1) := by decide +kernel
theorem dX9_bitsOf_5 : decode cX9_bitsOf 5 = .ok (.bipush 6, 2) := by decide +kernel
theorem dX9_bitsOf_7 : decode cX9_bitsOf 7 = .ok (.if_icmp .ge 17, 3) := by decide +kernel
theorem dX9_bitsOf_10 : decode cX9_bitsOf 10 = .ok (.iload_n 1, 1) := by decide +kernel
theorem dX9_bitsOf_11 : decode cX9_bitsOf 11 = .ok (.iload_n 0, 1) := by decide +kernel
theorem dX9_bitsOf_12 : decode cX9_bitsOf 12 = .ok (.iload_n 2, 1) := by decide +kernel
theorem dX9_bitsOf_13 : decode cX9_bitsOf 13 = .ok (.ishr, 1) := by decide +kernel
theorem dX9_bitsOf_14 : decode cX9_bitsOf 14 = .ok (.iconst 1, 1) := by decide +kernel
theorem dX9_bitsOf_15 : decode cX9_bitsOf 15 = .ok (.iand, 1) := by decide +kernel
theorem dX9_bitsOf_16 : decode cX9_bitsOf 16 = .ok (.iadd, 1) := by decide +kernel
theorem dX9_bitsOf_17 : decode cX9_bitsOf 17 = .ok (.istore_n 1, 1) := by decide +kernel
theorem dX9_bitsOf_18 : decode cX9_bitsOf 18 = .ok (.iinc 2 1, 3) := by decide +kernel
theorem dX9_bitsOf_21 : decode cX9_bitsOf 21 = .ok (.goto (-17), 3) := by decide +kernel
theorem dX9_bitsOf_24 : decode cX9_bitsOf 24 = .ok (.iload_n 1, 1) := by decide +kernel
theorem dX9_bitsOf_25 : decode cX9_bitsOf 25 = .ok (.ireturn, 1) := by decide +kernel
theorem dX9_first_0 : decode cX9_first 0 = .ok (.lload_n 1, 1) := by decide +kernel
theorem dX9_first_1 : decode cX9_first 1 = .ok (.invokestatic 165, 3) := by decide +kernel
theorem dX9_first_4 : decode cX9_first 4 = .ok (.ifCond .eq 13, 3) := by decide +kernel
theorem dX9_first_7 : decode cX9_first 7 = .ok (.iload_n 3, 1) := by decide +kernel
theorem dX9_first_8 : decode cX9_first 8 = .ok (.i2l, 1) := by decide +kernel
theorem dX9_first_9 : decode cX9_first 9 = .ok (.lconst 0, 1) := by decide +kernel
theorem dX9_first_10 : decode cX9_first 10 = .ok (.lconst 1, 1) := by decide +kernel
theorem dX9_first_11 : decode cX9_first 11 = .ok (.invokestatic 71, 3) := by decide +kernel
theorem dX9_first_14 : decode cX9_first 14 = .ok (.ifCond .ne 7, 3) := by decide +kernel
theorem dX9_first_17 : decode cX9_first 17 = .ok (.ldc2_w 177, 3) := by decide +kernel
theorem dX9_first_20 : decode cX9_first 20 = .ok (.lreturn, 1) := by decide +kernel
theorem dX9_first_21 : decode cX9_first 21 = .ok (.ldc2_w 177, 3) := by decide +kernel
theorem dX9_first_24 : decode cX9_first 24 = .ok (.lstore 4, 2) := by decide +kernel
theorem dX9_first_26 : decode cX9_first 26 = .ok (.bipush (-4), 2) := by decide +kernel
theorem dX9_first_28 : decode cX9_first 28 = .ok (.istore 6, 2) := by decide +kernel
theorem dX9_first_30 : decode cX9_first 30 = .ok (.iconst 0, 1) := by decide +kernel
theorem dX9_first_31 : decode cX9_first 31 = .ok (.istore 7, 2) := by decide +kernel
theorem dX9_first_33 : decode cX9_first 33 = .ok (.iload 7, 2) := by decide +kernel
theorem dX9_first_35 : decode cX9_first 35 = .ok (.aload_n 0, 1) := by decide +kernel
theorem dX9_first_36 : decode cX9_first 36 = .ok (.getfield 7, 3) := by decide +kernel
theorem dX9_first_39 : decode cX9_first 39 = .ok (.iconst 0, 1) := by decide +kernel
theorem dX9_first_40 : decode cX9_first 40 = .ok (.iaload, 1) := by decide +kernel
theorem dX9_first_41 : decode cX9_first 41 = .ok (.if_icmp .ge 123, 3) := by decide +kernel
theorem dX9_first_44 : decode cX9_first 44 = .ok (.iload 7, 2) := by decide +kernel
theorem dX9_first_46 : decode cX9_first 46 = .ok (.iconst 1, 1) := by decide +kernel
theorem dX9_first_47 : decode cX9_first 47 = .ok (.iadd, 1) := by decide +kernel
theorem dX9_first_48 : decode cX9_first 48 = .ok (.istore 8, 2) := by decide +kernel
theorem dX9_first_50 : decode cX9_first 50 = .ok (.iload 8, 2) := by decide +kernel
theorem dX9_first_52 : decode cX9_first 52 = .ok (.aload_n 0, 1) := by decide +kernel
theorem dX9_first_53 : decode cX9_first 53 = .ok (.getfield 7, 3) := by decide +kernel
theorem dX9_first_56 : decode cX9_first 56 = .ok (.iconst 0, 1) := by decide +kernel
theorem dX9_first_57 : decode cX9_first 57 = .ok (.iaload, 1) := by decide +kernel
theorem dX9_first_58 : decode cX9_first 58 = .ok (.if_icmp .ge 100, 3) := by decide +kernel
theorem dX9_first_61 : decode cX9_first 61 = .ok (.aload_n 0, 1) := by decide +kernel
theorem dX9_first_62 : decode cX9_first 62 = .ok (.iload 7, 2) := by decide +kernel
theorem dX9_first_64 : decode cX9_first 64 = .ok (.iload 8, 2) := by decide +kernel
theorem dX9_first_66 : decode cX9_first 66 = .ok (.invokevirtual 242, 3) := by decide +kernel
theorem dX9_first_69 : decode cX9_first 69 = .ok (.ifCond .eq 15, 3) := by decide +kernel
theorem dX9_first_72 : decode cX9_first 72 = .ok (.aload_n 0, 1) := by decide +kernel
theorem dX9_first_73 : decode cX9_first 73 = .ok (.iload 7, 2) := by decide +kernel
theorem dX9_first_75 : decode cX9_first 75 = .ok (.iload 8, 2) := by decide +kernel
theorem dX9_first_77 : decode cX9_first 77 = .ok (.lload_n 1, 1) := by decide +kernel
theorem dX9_first_78 : decode cX9_first 78 = .ok (.invokevirtual 235, 3) := by decide +kernel
theorem dX9_first_81 : decode cX9_first 81 = .ok (.goto 6, 3) := by decide +kernel
theorem dX9_first_84 : decode cX9_first 84 = .ok (.ldc2_w 177, 3) := by decide +kernel
theorem dX9_first_87 : decode cX9_first 87 = .ok (.lstore 9, 2) := by decide +kernel
theorem dX9_first_89 : decode cX9_first 89 = .ok (.lload 9, 2) := by decide +kernel
theorem dX9_first_91 : decode cX9_first 91 = .ok (.lconst 0, 1) := by decide +kernel
theorem dX9_first_92 : decode cX9_first 92 = .ok (.lcmp, 1) := by decide +kernel
theorem dX9_first_93 : decode cX9_first 93 = .ok (.ifCond .lt 22, 3) := by decide +kernel
theorem dX9_first_96 : decode cX9_first 96 = .ok (.lload 4, 2) := by decide +kernel
theorem dX9_first_98 : decode cX9_first 98 = .ok (.lconst 0, 1) := by decide +kernel
theorem dX9_first_99 : decode cX9_first 99 = .ok (.lcmp, 1) := by decide +kernel
theorem dX9_first_100 : decode cX9_first 100 = .ok (.ifCond .lt 11, 3) := by decide +kernel
theorem dX9_first_103 : decode cX9_first 103 = .ok (.lload 9, 2) := by decide +kernel
theorem dX9_first_105 : decode cX9_first 105 = .ok (.lload 4, 2) := by decide +kernel
theorem dX9_first_107 : decode cX9_first 107 = .ok (.lcmp, 1) := by decide +kernel
theorem dX9_first_108 : decode cX9_first 108 = .ok (.ifCond .ge 7, 3) := by decide +kernel
theorem dX9_first_111 : decode cX9_first 111 = .ok (.iconst 1, 1) := by decide +kernel
theorem dX9_first_112 : decode cX9_first 112 = .ok (.goto 4, 3) := by decide +kernel
theorem dX9_first_115 : decode cX9_first 115 = .ok (.iconst 0, 1) := by decide +kernel
theorem dX9_first_116 : decode cX9_first 116 = .ok (.istore 11, 2) := by decide +kernel
theorem dX9_first_118 : decode cX9_first 118 = .ok (.iload 11, 2) := by decide +kernel
theorem dX9_first_120 : decode cX9_first 120 = .ok (.ifCond .eq 8, 3) := by decide +kernel
theorem dX9_first_123 : decode cX9_first 123 = .ok (.lload 9, 2) := by decide +kernel
theorem dX9_first_125 : decode cX9_first 125 = .ok (.goto 5, 3) := by decide +kernel
theorem dX9_first_128 : decode cX9_first 128 = .ok (.lload 4, 2) := by decide +kernel
theorem dX9_first_130 : decode cX9_first 130 = .ok (.lstore 4, 2) := by decide +kernel
theorem dX9_first_132 : decode cX9_first 132 = .ok (.iload 11, 2) := by decide +kernel
theorem dX9_first_134 : decode cX9_first 134 = .ok (.ifCond .eq 14, 3) := by decide +kernel
theorem dX9_first_137 : decode cX9_first 137 = .ok (.bipush 10, 2) := by decide +kernel
theorem dX9_first_139 : decode cX9_first 139 = .ok (.iload 7, 2) := by decide +kernel
theorem dX9_first_141 : decode cX9_first 141 = .ok (.imul, 1) := by decide +kernel
theorem dX9_first_142 : decode cX9_first 142 = .ok (.iload 8, 2) := by decide +kernel
theorem dX9_first_144 : decode cX9_first 144 = .ok (.iadd, 1) := by decide +kernel
theorem dX9_first_145 : decode cX9_first 145 = .ok (.goto 5, 3) := by decide +kernel
theorem dX9_first_148 : decode cX9_first 148 = .ok (.iload 6, 2) := by decide +kernel
theorem dX9_first_150 : decode cX9_first 150 = .ok (.istore 6, 2) := by decide +kernel
theorem dX9_first_152 : decode cX9_first 152 = .ok (.iinc 8 1, 3) := by decide +kernel
theorem dX9_first_155 : decode cX9_first 155 = .ok (.goto (-105), 3) := by decide +kernel
theorem dX9_first_158 : decode cX9_first 158 = .ok (.iinc 7 1, 3) := by decide +kernel
theorem dX9_first_161 : decode cX9_first 161 = .ok (.goto (-128), 3) := by decide +kernel
theorem dX9_first_164 : decode cX9_first 164 = .ok (.lload 4, 2) := by decide +kernel
theorem dX9_first_166 : decode cX9_first 166 = .ok (.invokestatic 189, 3) := by decide +kernel
theorem dX9_first_169 : decode cX9_first 169 = .ok (.ldc2_w 183, 3) := by decide +kernel
theorem dX9_first_172 : decode cX9_first 172 = .ok (.lcmp, 1) := by decide +kernel
theorem dX9_first_173 : decode cX9_first 173 = .ok (.ifCond .ne 9, 3) := by decide +kernel
theorem dX9_first_176 : decode cX9_first 176 = .ok (.ldc2_w 183, 3) := by decide +kernel
theorem dX9_first_179 : decode cX9_first 179 = .ok (.goto 15, 3) := by decide +kernel
theorem dX9_first_182 : decode cX9_first 182 = .ok (.iload_n 3, 1) := by decide +kernel
theorem dX9_first_183 : decode cX9_first 183 = .ok (.ifCond .ne 8, 3) := by decide +kernel
theorem dX9_first_186 : decode cX9_first 186 = .ok (.lload 4, 2) := by decide +kernel
theorem dX9_first_188 : decode cX9_first 188 = .ok (.goto 6, 3) := by decide +kernel
theorem dX9_first_191 : decode cX9_first 191 = .ok (.iload 6, 2) := by decide +kernel
theorem dX9_first_193 : decode cX9_first 193 = .ok (.i2l, 1) := by decide +kernel
theorem dX9_first_194 : decode cX9_first 194 = .ok (.lreturn, 1) := by decide +kernel
theorem dX9_ofFour_0 : decode cX9_ofFour 0 = .ok (.lload_n 0, 1) := by decide +kernel
theorem dX9_ofFour_1 : decode cX9_ofFour 1 = .ok (.ldc2_w 248, 3) := by decide +kernel
theorem dX9_ofFour_4 : decode cX9_ofFour 4 = .ok (.lrem, 1) := by decide +kernel
theorem dX9_ofFour_5 : decode cX9_ofFour 5 = .ok (.l2i, 1) := by decide +kernel
theorem dX9_ofFour_6 : decode cX9_ofFour 6 = .ok (.istore_n 2, 1) := by decide +kernel
theorem dX9_ofFour_7 : decode cX9_ofFour 7 = .ok (.iload_n 2, 1) := by decide +kernel
theorem dX9_ofFour_8 : decode cX9_ofFour 8 = .ok (.sipush 366, 3) := by decide +kernel
theorem dX9_ofFour_11 : decode cX9_ofFour 11 = .ok (.if_icmp .ge 7, 3) := by decide +kernel
theorem dX9_ofFour_14 : decode cX9_ofFour 14 = .ok (.iconst 0, 1) := by decide +kernel
theorem dX9_ofFour_15 : decode cX9_ofFour 15 = .ok (.goto 14, 3) := by decide +kernel
theorem dX9_ofFour_18 : decode cX9_ofFour 18 = .ok (.iconst 1, 1) := by decide +kernel
theorem dX9_ofFour_19 : decode cX9_ofFour 19 = .ok (.iload_n 2, 1) := by decide +kernel
theorem dX9_ofFour_20 : decode cX9_ofFour 20 = .ok (.sipush 366, 3) := by decide +kernel
theorem dX9_ofFour_23 : decode cX9_ofFour 23 = .ok (.isub, 1) := by decide +kernel
theorem dX9_ofFour_24 : decode cX9_ofFour 24 = .ok (.sipush 365, 3) := by decide +kernel
theorem dX9_ofFour_27 : decode cX9_ofFour 27 = .ok (.idiv, 1) := by decide +kernel
theorem dX9_ofFour_28 : decode cX9_ofFour 28 = .ok (.iadd, 1) := by decide +kernel
theorem dX9_ofFour_29 : decode cX9_ofFour 29 = .ok (.ireturn, 1) := by decide +kernel
theorem dX9_dayOf_0 : decode cX9_dayOf 0 = .ok (.lload_n 0, 1) := by decide +kernel
theorem dX9_dayOf_1 : decode cX9_dayOf 1 = .ok (.ldc2_w 248, 3) := by decide +kernel
theorem dX9_dayOf_4 : decode cX9_dayOf 4 = .ok (.lrem, 1) := by decide +kernel
theorem dX9_dayOf_5 : decode cX9_dayOf 5 = .ok (.l2i, 1) := by decide +kernel
theorem dX9_dayOf_6 : decode cX9_dayOf 6 = .ok (.istore_n 2, 1) := by decide +kernel
theorem dX9_dayOf_7 : decode cX9_dayOf 7 = .ok (.iload_n 2, 1) := by decide +kernel
theorem dX9_dayOf_8 : decode cX9_dayOf 8 = .ok (.sipush 366, 3) := by decide +kernel
theorem dX9_dayOf_11 : decode cX9_dayOf 11 = .ok (.if_icmp .ge 7, 3) := by decide +kernel
theorem dX9_dayOf_14 : decode cX9_dayOf 14 = .ok (.iload_n 2, 1) := by decide +kernel
theorem dX9_dayOf_15 : decode cX9_dayOf 15 = .ok (.goto 12, 3) := by decide +kernel
theorem dX9_dayOf_18 : decode cX9_dayOf 18 = .ok (.iload_n 2, 1) := by decide +kernel
theorem dX9_dayOf_19 : decode cX9_dayOf 19 = .ok (.sipush 366, 3) := by decide +kernel
theorem dX9_dayOf_22 : decode cX9_dayOf 22 = .ok (.isub, 1) := by decide +kernel
theorem dX9_dayOf_23 : decode cX9_dayOf 23 = .ok (.sipush 365, 3) := by decide +kernel
theorem dX9_dayOf_26 : decode cX9_dayOf 26 = .ok (.irem, 1) := by decide +kernel
theorem dX9_dayOf_27 : decode cX9_dayOf 27 = .ok (.ireturn, 1) := by decide +kernel
theorem dX9_date_0 : decode cX9_date 0 = .ok (.lload_n 1, 1) := by decide +kernel
theorem dX9_date_1 : decode cX9_date 1 = .ok (.invokestatic 165, 3) := by decide +kernel
theorem dX9_date_4 : decode cX9_date 4 = .ok (.ifCond .eq 13, 3) := by decide +kernel
theorem dX9_date_7 : decode cX9_date 7 = .ok (.iload_n 3, 1) := by decide +kernel
theorem dX9_date_8 : decode cX9_date 8 = .ok (.i2l, 1) := by decide +kernel
theorem dX9_date_9 : decode cX9_date 9 = .ok (.lconst 0, 1) := by decide +kernel
theorem dX9_date_10 : decode cX9_date 10 = .ok (.lconst 1, 1) := by decide +kernel
theorem dX9_date_11 : decode cX9_date 11 = .ok (.invokestatic 71, 3) := by decide +kernel
theorem dX9_date_14 : decode cX9_date 14 = .ok (.ifCond .ne 7, 3) := by decide +kernel
theorem dX9_date_17 : decode cX9_date 17 = .ok (.ldc2_w 177, 3) := by decide +kernel
theorem dX9_date_20 : decode cX9_date 20 = .ok (.lreturn, 1) := by decide +kernel
theorem dX9_date_21 : decode cX9_date 21 = .ok (.iload_n 3, 1) := by decide +kernel
theorem dX9_date_22 : decode cX9_date 22 = .ok (.ifCond .ne 21, 3) := by decide +kernel
theorem dX9_date_25 : decode cX9_date 25 = .ok (.ldc2_w 155, 3) := by decide +kernel
theorem dX9_date_28 : decode cX9_date 28 = .ok (.lload_n 1, 1) := by decide +kernel
theorem dX9_date_29 : decode cX9_date 29 = .ok (.ldc2_w 248, 3) := by decide +kernel
theorem dX9_date_32 : decode cX9_date 32 = .ok (.ldiv, 1) := by decide +kernel
theorem dX9_date_33 : decode cX9_date 33 = .ok (.lmul, 1) := by decide +kernel
theorem dX9_date_34 : decode cX9_date 34 = .ok (.lload_n 1, 1) := by decide +kernel
theorem dX9_date_35 : decode cX9_date 35 = .ok (.invokestatic 250, 3) := by decide +kernel
theorem dX9_date_38 : decode cX9_date 38 = .ok (.i2l, 1) := by decide +kernel
theorem dX9_date_39 : decode cX9_date 39 = .ok (.ladd, 1) := by decide +kernel
theorem dX9_date_40 : decode cX9_date 40 = .ok (.goto 8, 3) := by decide +kernel
theorem dX9_date_43 : decode cX9_date 43 = .ok (.lload_n 1, 1) := by decide +kernel
theorem dX9_date_44 : decode cX9_date 44 = .ok (.invokestatic 254, 3) := by decide +kernel
theorem dX9_date_47 : decode cX9_date 47 = .ok (.i2l, 1) := by decide +kernel
theorem dX9_date_48 : decode cX9_date 48 = .ok (.lreturn, 1) := by decide +kernel
theorem dX9_day_0 : decode cX9_day 0 = .ok (.iload_n 1, 1) := by decide +kernel
theorem dX9_day_1 : decode cX9_day 1 = .ok (.i2l, 1) := by decide +kernel
theorem dX9_day_2 : decode cX9_day 2 = .ok (.lconst 0, 1) := by decide +kernel
theorem dX9_day_3 : decode cX9_day 3 = .ok (.ldc2_w 257, 3) := by decide +kernel
theorem dX9_day_6 : decode cX9_day 6 = .ok (.invokestatic 71, 3) := by decide +kernel
theorem dX9_day_9 : decode cX9_day 9 = .ok (.ifCond .eq 27, 3) := by decide +kernel
theorem dX9_day_12 : decode cX9_day 12 = .ok (.iload_n 2, 1) := by decide +kernel
theorem dX9_day_13 : decode cX9_day 13 = .ok (.i2l, 1) := by decide +kernel
theorem dX9_day_14 : decode cX9_day 14 = .ok (.lconst 0, 1) := by decide +kernel
theorem dX9_day_15 : decode cX9_day 15 = .ok (.iload_n 1, 1) := by decide +kernel
theorem dX9_day_16 : decode cX9_day 16 = .ok (.iconst 4, 1) := by decide +kernel
theorem dX9_day_17 : decode cX9_day 17 = .ok (.irem, 1) := by decide +kernel
theorem dX9_day_18 : decode cX9_day 18 = .ok (.ifCond .ne 9, 3) := by decide +kernel
theorem dX9_day_21 : decode cX9_day 21 = .ok (.ldc2_w 259, 3) := by decide +kernel
theorem dX9_day_24 : decode cX9_day 24 = .ok (.goto 6, 3) := by decide +kernel
theorem dX9_day_27 : decode cX9_day 27 = .ok (.ldc2_w 261, 3) := by decide +kernel
theorem dX9_day_30 : decode cX9_day 30 = .ok (.invokestatic 71, 3) := by decide +kernel
theorem dX9_day_33 : decode cX9_day 33 = .ok (.ifCond .ne 7, 3) := by decide +kernel
theorem dX9_day_36 : decode cX9_day 36 = .ok (.ldc2_w 177, 3) := by decide +kernel
theorem dX9_day_39 : decode cX9_day 39 = .ok (.lreturn, 1) := by decide +kernel
theorem dX9_day_40 : decode cX9_day 40 = .ok (.iload_n 1, 1) := by decide +kernel
theorem dX9_day_41 : decode cX9_day 41 = .ok (.iconst 4, 1) := by decide +kernel
theorem dX9_day_42 : decode cX9_day 42 = .ok (.irem, 1) := by decide +kernel
theorem dX9_day_43 : decode cX9_day 43 = .ok (.istore_n 3, 1) := by decide +kernel
theorem dX9_day_44 : decode cX9_day 44 = .ok (.ldc2_w 248, 3) := by decide +kernel
theorem dX9_day_47 : decode cX9_day 47 = .ok (.iload_n 1, 1) := by decide +kernel
theorem dX9_day_48 : decode cX9_day 48 = .ok (.iconst 4, 1) := by decide +kernel
theorem dX9_day_49 : decode cX9_day 49 = .ok (.idiv, 1) := by decide +kernel
theorem dX9_day_50 : decode cX9_day 50 = .ok (.i2l, 1) := by decide +kernel
theorem dX9_day_51 : decode cX9_day 51 = .ok (.lmul, 1) := by decide +kernel
theorem dX9_day_52 : decode cX9_day 52 = .ok (.iload_n 3, 1) := by decide +kernel
theorem dX9_day_53 : decode cX9_day 53 = .ok (.ifCond .ne 7, 3) := by decide +kernel
theorem dX9_day_56 : decode cX9_day 56 = .ok (.iconst 0, 1) := by decide +kernel
theorem dX9_day_57 : decode cX9_day 57 = .ok (.goto 14, 3) := by decide +kernel
theorem dX9_day_60 : decode cX9_day 60 = .ok (.sipush 366, 3) := by decide +kernel
theorem dX9_day_63 : decode cX9_day 63 = .ok (.sipush 365, 3) := by decide +kernel
theorem dX9_day_66 : decode cX9_day 66 = .ok (.iload_n 3, 1) := by decide +kernel
theorem dX9_day_67 : decode cX9_day 67 = .ok (.iconst 1, 1) := by decide +kernel
theorem dX9_day_68 : decode cX9_day 68 = .ok (.isub, 1) := by decide +kernel
theorem dX9_day_69 : decode cX9_day 69 = .ok (.imul, 1) := by decide +kernel
theorem dX9_day_70 : decode cX9_day 70 = .ok (.iadd, 1) := by decide +kernel
theorem dX9_day_71 : decode cX9_day 71 = .ok (.i2l, 1) := by decide +kernel
theorem dX9_day_72 : decode cX9_day 72 = .ok (.ladd, 1) := by decide +kernel
theorem dX9_day_73 : decode cX9_day 73 = .ok (.iload_n 2, 1) := by decide +kernel
theorem dX9_day_74 : decode cX9_day 74 = .ok (.i2l, 1) := by decide +kernel
theorem dX9_day_75 : decode cX9_day 75 = .ok (.ladd, 1) := by decide +kernel
theorem dX9_day_76 : decode cX9_day 76 = .ok (.lreturn, 1) := by decide +kernel
theorem dX9_doorOn_0 : decode cX9_doorOn 0 = .ok (.aload_n 0, 1) := by decide +kernel
theorem dX9_doorOn_1 : decode cX9_doorOn 1 = .ok (.iload_n 1, 1) := by decide +kernel
theorem dX9_doorOn_2 : decode cX9_doorOn 2 = .ok (.iconst 3, 1) := by decide +kernel
theorem dX9_doorOn_3 : decode cX9_doorOn 3 = .ok (.invokevirtual 143, 3) := by decide +kernel
theorem dX9_doorOn_6 : decode cX9_doorOn 6 = .ok (.istore 4, 2) := by decide +kernel
theorem dX9_doorOn_8 : decode cX9_doorOn 8 = .ok (.aload_n 0, 1) := by decide +kernel
theorem dX9_doorOn_9 : decode cX9_doorOn 9 = .ok (.getfield 7, 3) := by decide +kernel
theorem dX9_doorOn_12 : decode cX9_doorOn 12 = .ok (.bipush 68, 2) := by decide +kernel
theorem dX9_doorOn_14 : decode cX9_doorOn 14 = .ok (.iaload, 1) := by decide +kernel
theorem dX9_doorOn_15 : decode cX9_doorOn 15 = .ok (.iload 4, 2) := by decide +kernel
theorem dX9_doorOn_17 : decode cX9_doorOn 17 = .ok (.if_icmp .ne 34, 3) := by decide +kernel
theorem dX9_doorOn_20 : decode cX9_doorOn 20 = .ok (.lload_n 2, 1) := by decide +kernel
theorem dX9_doorOn_21 : decode cX9_doorOn 21 = .ok (.invokestatic 254, 3) := by decide +kernel
theorem dX9_doorOn_24 : decode cX9_doorOn 24 = .ok (.i2l, 1) := by decide +kernel
theorem dX9_doorOn_25 : decode cX9_doorOn 25 = .ok (.aload_n 0, 1) := by decide +kernel
theorem dX9_doorOn_26 : decode cX9_doorOn 26 = .ok (.getfield 7, 3) := by decide +kernel
theorem dX9_doorOn_29 : decode cX9_doorOn 29 = .ok (.bipush 69, 2) := by decide +kernel
theorem dX9_doorOn_31 : decode cX9_doorOn 31 = .ok (.iaload, 1) := by decide +kernel
theorem dX9_doorOn_32 : decode cX9_doorOn 32 = .ok (.i2l, 1) := by decide +kernel
theorem dX9_doorOn_33 : decode cX9_doorOn 33 = .ok (.aload_n 0, 1) := by decide +kernel
theorem dX9_doorOn_34 : decode cX9_doorOn 34 = .ok (.getfield 7, 3) := by decide +kernel
theorem dX9_doorOn_37 : decode cX9_doorOn 37 = .ok (.bipush 70, 2) := by decide +kernel
theorem dX9_doorOn_39 : decode cX9_doorOn 39 = .ok (.iaload, 1) := by decide +kernel
theorem dX9_doorOn_40 : decode cX9_doorOn 40 = .ok (.i2l, 1) := by decide +kernel
theorem dX9_doorOn_41 : decode cX9_doorOn 41 = .ok (.invokestatic 71, 3) := by decide +kernel
theorem dX9_doorOn_44 : decode cX9_doorOn 44 = .ok (.ifCond .eq 7, 3) := by decide +kernel
theorem dX9_doorOn_47 : decode cX9_doorOn 47 = .ok (.iconst 1, 1) := by decide +kernel
theorem dX9_doorOn_48 : decode cX9_doorOn 48 = .ok (.goto 4, 3) := by decide +kernel
theorem dX9_doorOn_51 : decode cX9_doorOn 51 = .ok (.iconst 0, 1) := by decide +kernel
theorem dX9_doorOn_52 : decode cX9_doorOn 52 = .ok (.istore 5, 2) := by decide +kernel
theorem dX9_doorOn_54 : decode cX9_doorOn 54 = .ok (.iload 5, 2) := by decide +kernel
theorem dX9_doorOn_56 : decode cX9_doorOn 56 = .ok (.ifCond .eq 13, 3) := by decide +kernel
theorem dX9_doorOn_59 : decode cX9_doorOn 59 = .ok (.iload 4, 2) := by decide +kernel
theorem dX9_doorOn_61 : decode cX9_doorOn 61 = .ok (.iconst 1, 1) := by decide +kernel
theorem dX9_doorOn_62 : decode cX9_doorOn 62 = .ok (.iadd, 1) := by decide +kernel
theorem dX9_doorOn_63 : decode cX9_doorOn 63 = .ok (.bipush 9, 2) := by decide +kernel
theorem dX9_doorOn_65 : decode cX9_doorOn 65 = .ok (.irem, 1) := by decide +kernel
theorem dX9_doorOn_66 : decode cX9_doorOn 66 = .ok (.goto 5, 3) := by decide +kernel
theorem dX9_doorOn_69 : decode cX9_doorOn 69 = .ok (.iload 4, 2) := by decide +kernel
theorem dX9_doorOn_71 : decode cX9_doorOn 71 = .ok (.ireturn, 1) := by decide +kernel
theorem dX9_by_0 : decode cX9_by 0 = .ok (.aload_n 0, 1) := by decide +kernel
theorem dX9_by_1 : decode cX9_by 1 = .ok (.iload_n 1, 1) := by decide +kernel
theorem dX9_by_2 : decode cX9_by 2 = .ok (.invokevirtual 146, 3) := by decide +kernel
theorem dX9_by_5 : decode cX9_by 5 = .ok (.ifCond .eq 10, 3) := by decide +kernel
theorem dX9_by_8 : decode cX9_by 8 = .ok (.lload_n 2, 1) := by decide +kernel
theorem dX9_by_9 : decode cX9_by 9 = .ok (.invokestatic 165, 3) := by decide +kernel
theorem dX9_by_12 : decode cX9_by 12 = .ok (.ifCond .ne 7, 3) := by decide +kernel
theorem dX9_by_15 : decode cX9_by 15 = .ok (.iconst (-1), 1) := by decide +kernel
theorem dX9_by_16 : decode cX9_by 16 = .ok (.goto 23, 3) := by decide +kernel
theorem dX9_by_19 : decode cX9_by 19 = .ok (.aload_n 0, 1) := by decide +kernel
theorem dX9_by_20 : decode cX9_by 20 = .ok (.iload_n 1, 1) := by decide +kernel
theorem dX9_by_21 : decode cX9_by 21 = .ok (.lload_n 2, 1) := by decide +kernel
theorem dX9_by_22 : decode cX9_by 22 = .ok (.invokevirtual 169, 3) := by decide +kernel
theorem dX9_by_25 : decode cX9_by 25 = .ok (.ifCond .eq 12, 3) := by decide +kernel
theorem dX9_by_28 : decode cX9_by 28 = .ok (.aload_n 0, 1) := by decide +kernel
theorem dX9_by_29 : decode cX9_by 29 = .ok (.iload_n 1, 1) := by decide +kernel
theorem dX9_by_30 : decode cX9_by 30 = .ok (.lload_n 2, 1) := by decide +kernel
theorem dX9_by_31 : decode cX9_by 31 = .ok (.invokevirtual 263, 3) := by decide +kernel
theorem dX9_by_34 : decode cX9_by 34 = .ok (.goto 5, 3) := by decide +kernel
theorem dX9_by_37 : decode cX9_by 37 = .ok (.bipush (-4), 2) := by decide +kernel
theorem dX9_by_39 : decode cX9_by 39 = .ok (.ireturn, 1) := by decide +kernel
theorem dX9_areMany_0 : decode cX9_areMany 0 = .ok (.lload_n 0, 1) := by decide +kernel
theorem dX9_areMany_1 : decode cX9_areMany 1 = .ok (.invokestatic 165, 3) := by decide +kernel
theorem dX9_areMany_4 : decode cX9_areMany 4 = .ok (.ifCond .eq 19, 3) := by decide +kernel
theorem dX9_areMany_7 : decode cX9_areMany 7 = .ok (.iload_n 2, 1) := by decide +kernel
theorem dX9_areMany_8 : decode cX9_areMany 8 = .ok (.i2l, 1) := by decide +kernel
theorem dX9_areMany_9 : decode cX9_areMany 9 = .ok (.lconst 1, 1) := by decide +kernel
theorem dX9_areMany_10 : decode cX9_areMany 10 = .ok (.ldc2_w 267, 3) := by decide +kernel
theorem dX9_areMany_13 : decode cX9_areMany 13 = .ok (.invokestatic 71, 3) := by decide +kernel
theorem dX9_areMany_16 : decode cX9_areMany 16 = .ok (.ifCond .eq 7, 3) := by decide +kernel
theorem dX9_areMany_19 : decode cX9_areMany 19 = .ok (.iconst 1, 1) := by decide +kernel
theorem dX9_areMany_20 : decode cX9_areMany 20 = .ok (.goto 4, 3) := by decide +kernel
theorem dX9_areMany_23 : decode cX9_areMany 23 = .ok (.iconst 0, 1) := by decide +kernel
theorem dX9_areMany_24 : decode cX9_areMany 24 = .ok (.ireturn, 1) := by decide +kernel
theorem dX9_isClash_0 : decode cX9_isClash 0 = .ok (.iconst 0, 1) := by decide +kernel
theorem dX9_isClash_1 : decode cX9_isClash 1 = .ok (.istore_n 3, 1) := by decide +kernel
theorem dX9_isClash_2 : decode cX9_isClash 2 = .ok (.iconst 0, 1) := by decide +kernel
theorem dX9_isClash_3 : decode cX9_isClash 3 = .ok (.istore 4, 2) := by decide +kernel
theorem dX9_isClash_5 : decode cX9_isClash 5 = .ok (.iconst 0, 1) := by decide +kernel
theorem dX9_isClash_6 : decode cX9_isClash 6 = .ok (.istore 5, 2) := by decide +kernel
theorem dX9_isClash_8 : decode cX9_isClash 8 = .ok (.iload 5, 2) := by decide +kernel
theorem dX9_isClash_10 : decode cX9_isClash 10 = .ok (.aload_n 0, 1) := by decide +kernel
theorem dX9_isClash_11 : decode cX9_isClash 11 = .ok (.getfield 7, 3) := by decide +kernel
theorem dX9_isClash_14 : decode cX9_isClash 14 = .ok (.iconst 0, 1) := by decide +kernel
theorem dX9_isClash_15 : decode cX9_isClash 15 = .ok (.iaload, 1) := by decide +kernel
theorem dX9_isClash_16 : decode cX9_isClash 16 = .ok (.if_icmp .ge 54, 3) := by decide +kernel
theorem dX9_isClash_19 : decode cX9_isClash 19 = .ok (.aload_n 0, 1) := by decide +kernel
theorem dX9_isClash_20 : decode cX9_isClash 20 = .ok (.iload 5, 2) := by decide +kernel
theorem dX9_isClash_22 : decode cX9_isClash 22 = .ok (.lload_n 1, 1) := by decide +kernel
theorem dX9_isClash_23 : decode cX9_isClash 23 = .ok (.invokevirtual 169, 3) := by decide +kernel
theorem dX9_isClash_26 : decode cX9_isClash 26 = .ok (.ifCond .eq 38, 3) := by decide +kernel
theorem dX9_isClash_29 : decode cX9_isClash 29 = .ok (.iconst 1, 1) := by decide +kernel
theorem dX9_isClash_30 : decode cX9_isClash 30 = .ok (.aload_n 0, 1) := by decide +kernel
theorem dX9_isClash_31 : decode cX9_isClash 31 = .ok (.iload 5, 2) := by decide +kernel
theorem dX9_isClash_33 : decode cX9_isClash 33 = .ok (.lload_n 1, 1) := by decide +kernel
theorem dX9_isClash_34 : decode cX9_isClash 34 = .ok (.invokevirtual 263, 3) := by decide +kernel
theorem dX9_isClash_37 : decode cX9_isClash 37 = .ok (.ishl, 1) := by decide +kernel
theorem dX9_isClash_38 : decode cX9_isClash 38 = .ok (.istore 6, 2) := by decide +kernel
theorem dX9_isClash_40 : decode cX9_isClash 40 = .ok (.iload 4, 2) := by decide +kernel
theorem dX9_isClash_42 : decode cX9_isClash 42 = .ok (.ifCond .ne 10, 3) := by decide +kernel
theorem dX9_isClash_45 : decode cX9_isClash 45 = .ok (.iload_n 3, 1) := by decide +kernel
theorem dX9_isClash_46 : decode cX9_isClash 46 = .ok (.iload 6, 2) := by decide +kernel
theorem dX9_isClash_48 : decode cX9_isClash 48 = .ok (.iand, 1) := by decide +kernel
theorem dX9_isClash_49 : decode cX9_isClash 49 = .ok (.ifCond .eq 7, 3) := by decide +kernel
theorem dX9_isClash_52 : decode cX9_isClash 52 = .ok (.iconst 1, 1) := by decide +kernel
theorem dX9_isClash_53 : decode cX9_isClash 53 = .ok (.goto 4, 3) := by decide +kernel
theorem dX9_isClash_56 : decode cX9_isClash 56 = .ok (.iconst 0, 1) := by decide +kernel
theorem dX9_isClash_57 : decode cX9_isClash 57 = .ok (.istore 4, 2) := by decide +kernel
theorem dX9_isClash_59 : decode cX9_isClash 59 = .ok (.iload_n 3, 1) := by decide +kernel
theorem dX9_isClash_60 : decode cX9_isClash 60 = .ok (.iload 6, 2) := by decide +kernel
theorem dX9_isClash_62 : decode cX9_isClash 62 = .ok (.ior, 1) := by decide +kernel
theorem dX9_isClash_63 : decode cX9_isClash 63 = .ok (.istore_n 3, 1) := by decide +kernel
theorem dX9_isClash_64 : decode cX9_isClash 64 = .ok (.iinc 5 1, 3) := by decide +kernel
theorem dX9_isClash_67 : decode cX9_isClash 67 = .ok (.goto (-59), 3) := by decide +kernel
theorem dX9_isClash_70 : decode cX9_isClash 70 = .ok (.iload 4, 2) := by decide +kernel
theorem dX9_isClash_72 : decode cX9_isClash 72 = .ok (.ireturn, 1) := by decide +kernel
theorem dX9_clashes_0 : decode cX9_clashes 0 = .ok (.lload_n 1, 1) := by decide +kernel
theorem dX9_clashes_1 : decode cX9_clashes 1 = .ok (.iload_n 3, 1) := by decide +kernel
theorem dX9_clashes_2 : decode cX9_clashes 2 = .ok (.invokestatic 269, 3) := by decide +kernel
theorem dX9_clashes_5 : decode cX9_clashes 5 = .ok (.ifCond .ne 5, 3) := by decide +kernel
theorem dX9_clashes_8 : decode cX9_clashes 8 = .ok (.iconst (-1), 1) := by decide +kernel
theorem dX9_clashes_9 : decode cX9_clashes 9 = .ok (.ireturn, 1) := by decide +kernel
theorem dX9_clashes_10 : decode cX9_clashes 10 = .ok (.iconst 0, 1) := by decide +kernel
theorem dX9_clashes_11 : decode cX9_clashes 11 = .ok (.istore 4, 2) := by decide +kernel
theorem dX9_clashes_13 : decode cX9_clashes 13 = .ok (.iconst 0, 1) := by decide +kernel
theorem dX9_clashes_14 : decode cX9_clashes 14 = .ok (.istore 5, 2) := by decide +kernel
theorem dX9_clashes_16 : decode cX9_clashes 16 = .ok (.iload 5, 2) := by decide +kernel
theorem dX9_clashes_18 : decode cX9_clashes 18 = .ok (.iload_n 3, 1) := by decide +kernel
theorem dX9_clashes_19 : decode cX9_clashes 19 = .ok (.if_icmp .ge 26, 3) := by decide +kernel
theorem dX9_clashes_22 : decode cX9_clashes 22 = .ok (.iload 4, 2) := by decide +kernel
theorem dX9_clashes_24 : decode cX9_clashes 24 = .ok (.aload_n 0, 1) := by decide +kernel
theorem dX9_clashes_25 : decode cX9_clashes 25 = .ok (.lload_n 1, 1) := by decide +kernel
theorem dX9_clashes_26 : decode cX9_clashes 26 = .ok (.iload 5, 2) := by decide +kernel
theorem dX9_clashes_28 : decode cX9_clashes 28 = .ok (.i2l, 1) := by decide +kernel
theorem dX9_clashes_29 : decode cX9_clashes 29 = .ok (.ladd, 1) := by decide +kernel
theorem dX9_clashes_30 : decode cX9_clashes 30 = .ok (.invokevirtual 273, 3) := by decide +kernel
theorem dX9_clashes_33 : decode cX9_clashes 33 = .ok (.invokestatic 173, 3) := by decide +kernel
theorem dX9_clashes_36 : decode cX9_clashes 36 = .ok (.iadd, 1) := by decide +kernel
theorem dX9_clashes_37 : decode cX9_clashes 37 = .ok (.istore 4, 2) := by decide +kernel
theorem dX9_clashes_39 : decode cX9_clashes 39 = .ok (.iinc 5 1, 3) := by decide +kernel
theorem dX9_clashes_42 : decode cX9_clashes 42 = .ok (.goto (-26), 3) := by decide +kernel
theorem dX9_clashes_45 : decode cX9_clashes 45 = .ok (.iload 4, 2) := by decide +kernel
theorem dX9_clashes_47 : decode cX9_clashes 47 = .ok (.ireturn, 1) := by decide +kernel
theorem dX9_stick_0 : decode cX9_stick 0 = .ok (.iload_n 1, 1) := by decide +kernel
theorem dX9_stick_1 : decode cX9_stick 1 = .ok (.bipush (-4), 2) := by decide +kernel
theorem dX9_stick_3 : decode cX9_stick 3 = .ok (.if_icmp .ne 15, 3) := by decide +kernel
theorem dX9_stick_6 : decode cX9_stick 6 = .ok (.iload_n 2, 1) := by decide +kernel
theorem dX9_stick_7 : decode cX9_stick 7 = .ok (.ifCond .ne 11, 3) := by decide +kernel
theorem dX9_stick_10 : decode cX9_stick 10 = .ok (.iload_n 3, 1) := by decide +kernel
theorem dX9_stick_11 : decode cX9_stick 11 = .ok (.ifCond .ne 7, 3) := by decide +kernel
theorem dX9_stick_14 : decode cX9_stick 14 = .ok (.iconst 1, 1) := by decide +kernel
theorem dX9_stick_15 : decode cX9_stick 15 = .ok (.goto 4, 3) := by decide +kernel
theorem dX9_stick_18 : decode cX9_stick 18 = .ok (.iconst 0, 1) := by decide +kernel
theorem dX9_stick_19 : decode cX9_stick 19 = .ok (.istore 4, 2) := by decide +kernel
theorem dX9_stick_21 : decode cX9_stick 21 = .ok (.iload 4, 2) := by decide +kernel
theorem dX9_stick_23 : decode cX9_stick 23 = .ok (.ifCond .ne 42, 3) := by decide +kernel
theorem dX9_stick_26 : decode cX9_stick 26 = .ok (.iload_n 1, 1) := by decide +kernel
theorem dX9_stick_27 : decode cX9_stick 27 = .ok (.i2l, 1) := by decide +kernel
theorem dX9_stick_28 : decode cX9_stick 28 = .ok (.lconst 0, 1) := by decide +kernel
theorem dX9_stick_29 : decode cX9_stick 29 = .ok (.ldc2_w 276, 3) := by decide +kernel
theorem dX9_stick_32 : decode cX9_stick 32 = .ok (.invokestatic 71, 3) := by decide +kernel
theorem dX9_stick_35 : decode cX9_stick 35 = .ok (.ifCond .eq 28, 3) := by decide +kernel
theorem dX9_stick_38 : decode cX9_stick 38 = .ok (.iload_n 2, 1) := by decide +kernel
theorem dX9_stick_39 : decode cX9_stick 39 = .ok (.i2l, 1) := by decide +kernel
theorem dX9_stick_40 : decode cX9_stick 40 = .ok (.lconst 0, 1) := by decide +kernel
theorem dX9_stick_41 : decode cX9_stick 41 = .ok (.ldc2_w 259, 3) := by decide +kernel
theorem dX9_stick_44 : decode cX9_stick 44 = .ok (.invokestatic 71, 3) := by decide +kernel
theorem dX9_stick_47 : decode cX9_stick 47 = .ok (.ifCond .eq 16, 3) := by decide +kernel
theorem dX9_stick_50 : decode cX9_stick 50 = .ok (.iload_n 3, 1) := by decide +kernel
theorem dX9_stick_51 : decode cX9_stick 51 = .ok (.i2l, 1) := by decide +kernel
theorem dX9_stick_52 : decode cX9_stick 52 = .ok (.iload_n 2, 1) := by decide +kernel
theorem dX9_stick_53 : decode cX9_stick 53 = .ok (.i2l, 1) := by decide +kernel
theorem dX9_stick_54 : decode cX9_stick 54 = .ok (.ldc2_w 259, 3) := by decide +kernel
theorem dX9_stick_57 : decode cX9_stick 57 = .ok (.invokestatic 71, 3) := by decide +kernel
theorem dX9_stick_60 : decode cX9_stick 60 = .ok (.ifCond .ne 5, 3) := by decide +kernel
theorem dX9_stick_63 : decode cX9_stick 63 = .ok (.iconst (-1), 1) := by decide +kernel
theorem dX9_stick_64 : decode cX9_stick 64 = .ok (.ireturn, 1) := by decide +kernel
theorem dX9_stick_65 : decode cX9_stick 65 = .ok (.aload_n 0, 1) := by decide +kernel
theorem dX9_stick_66 : decode cX9_stick 66 = .ok (.getfield 7, 3) := by decide +kernel
theorem dX9_stick_69 : decode cX9_stick 69 = .ok (.bipush 68, 2) := by decide +kernel
theorem dX9_stick_71 : decode cX9_stick 71 = .ok (.iaload, 1) := by decide +kernel
theorem dX9_stick_72 : decode cX9_stick 72 = .ok (.bipush (-4), 2) := by decide +kernel
theorem dX9_stick_74 : decode cX9_stick 74 = .ok (.if_icmp .eq 7, 3) := by decide +kernel
theorem dX9_stick_77 : decode cX9_stick 77 = .ok (.iconst 1, 1) := by decide +kernel
theorem dX9_stick_78 : decode cX9_stick 78 = .ok (.goto 4, 3) := by decide +kernel
theorem dX9_stick_81 : decode cX9_stick 81 = .ok (.iconst 0, 1) := by decide +kernel
theorem dX9_stick_82 : decode cX9_stick 82 = .ok (.invokestatic 173, 3) := by decide +kernel
theorem dX9_stick_85 : decode cX9_stick 85 = .ok (.istore 5, 2) := by decide +kernel
theorem dX9_stick_87 : decode cX9_stick 87 = .ok (.aload_n 0, 1) := by decide +kernel
theorem dX9_stick_88 : decode cX9_stick 88 = .ok (.getfield 7, 3) := by decide +kernel
theorem dX9_stick_91 : decode cX9_stick 91 = .ok (.bipush 68, 2) := by decide +kernel
theorem dX9_stick_93 : decode cX9_stick 93 = .ok (.iload_n 1, 1) := by decide +kernel
theorem dX9_stick_94 : decode cX9_stick 94 = .ok (.iastore, 1) := by decide +kernel
theorem dX9_stick_95 : decode cX9_stick 95 = .ok (.aload_n 0, 1) := by decide +kernel
theorem dX9_stick_96 : decode cX9_stick 96 = .ok (.getfield 7, 3) := by decide +kernel
theorem dX9_stick_99 : decode cX9_stick 99 = .ok (.bipush 69, 2) := by decide +kernel
theorem dX9_stick_101 : decode cX9_stick 101 = .ok (.iload 4, 2) := by decide +kernel
theorem dX9_stick_103 : decode cX9_stick 103 = .ok (.ifCond .eq 8, 3) := by decide +kernel
theorem dX9_stick_106 : decode cX9_stick 106 = .ok (.bipush (-4), 2) := by decide +kernel
theorem dX9_stick_108 : decode cX9_stick 108 = .ok (.goto 4, 3) := by decide +kernel
theorem dX9_stick_111 : decode cX9_stick 111 = .ok (.iload_n 2, 1) := by decide +kernel
theorem dX9_stick_112 : decode cX9_stick 112 = .ok (.iastore, 1) := by decide +kernel
theorem dX9_stick_113 : decode cX9_stick 113 = .ok (.aload_n 0, 1) := by decide +kernel
theorem dX9_stick_114 : decode cX9_stick 114 = .ok (.getfield 7, 3) := by decide +kernel
theorem dX9_stick_117 : decode cX9_stick 117 = .ok (.bipush 70, 2) := by decide +kernel
theorem dX9_stick_119 : decode cX9_stick 119 = .ok (.iload 4, 2) := by decide +kernel
theorem dX9_stick_121 : decode cX9_stick 121 = .ok (.ifCond .eq 8, 3) := by decide +kernel
theorem dX9_stick_124 : decode cX9_stick 124 = .ok (.bipush (-4), 2) := by decide +kernel
theorem dX9_stick_126 : decode cX9_stick 126 = .ok (.goto 4, 3) := by decide +kernel
theorem dX9_stick_129 : decode cX9_stick 129 = .ok (.iload_n 3, 1) := by decide +kernel
theorem dX9_stick_130 : decode cX9_stick 130 = .ok (.iastore, 1) := by decide +kernel
theorem dX9_stick_131 : decode cX9_stick 131 = .ok (.iload 5, 2) := by decide +kernel
theorem dX9_stick_133 : decode cX9_stick 133 = .ok (.ireturn, 1) := by decide +kernel
theorem dX9_quietFirst_0 : decode cX9_quietFirst 0 = .ok (.bipush (-4), 2) := by decide +kernel
theorem dX9_quietFirst_2 : decode cX9_quietFirst 2 = .ok (.istore_n 3, 1) := by decide +kernel
theorem dX9_quietFirst_3 : decode cX9_quietFirst 3 = .ok (.aload_n 0, 1) := by decide +kernel
theorem dX9_quietFirst_4 : decode cX9_quietFirst 4 = .ok (.getfield 7, 3) := by decide +kernel
theorem dX9_quietFirst_7 : decode cX9_quietFirst 7 = .ok (.iconst 1, 1) := by decide +kernel
theorem dX9_quietFirst_8 : decode cX9_quietFirst 8 = .ok (.bipush 6, 2) := by decide +kernel
theorem dX9_quietFirst_10 : decode cX9_quietFirst 10 = .ok (.iload_n 1, 1) := by decide +kernel
theorem dX9_quietFirst_11 : decode cX9_quietFirst 11 = .ok (.imul, 1) := by decide +kernel
theorem dX9_quietFirst_12 : decode cX9_quietFirst 12 = .ok (.iadd, 1) := by decide +kernel
theorem dX9_quietFirst_13 : decode cX9_quietFirst 13 = .ok (.iconst 1, 1) := by decide +kernel
theorem dX9_quietFirst_14 : decode cX9_quietFirst 14 = .ok (.iadd, 1) := by decide +kernel
theorem dX9_quietFirst_15 : decode cX9_quietFirst 15 = .ok (.iload_n 2, 1) := by decide +kernel
theorem dX9_quietFirst_16 : decode cX9_quietFirst 16 = .ok (.iastore, 1) := by decide +kernel
theorem dX9_quietFirst_17 : decode cX9_quietFirst 17 = .ok (.iconst 0, 1) := by decide +kernel
theorem dX9_quietFirst_18 : decode cX9_quietFirst 18 = .ok (.istore 4, 2) := by decide +kernel
theorem dX9_quietFirst_20 : decode cX9_quietFirst 20 = .ok (.iload 4, 2) := by decide +kernel
theorem dX9_quietFirst_22 : decode cX9_quietFirst 22 = .ok (.iload_n 2, 1) := by decide +kernel
theorem dX9_quietFirst_23 : decode cX9_quietFirst 23 = .ok (.if_icmp .ge 45, 3) := by decide +kernel
theorem dX9_quietFirst_26 : decode cX9_quietFirst 26 = .ok (.iload_n 3, 1) := by decide +kernel
theorem dX9_quietFirst_27 : decode cX9_quietFirst 27 = .ok (.bipush (-4), 2) := by decide +kernel
theorem dX9_quietFirst_29 : decode cX9_quietFirst 29 = .ok (.if_icmp .ne 39, 3) := by decide +kernel
theorem dX9_quietFirst_32 : decode cX9_quietFirst 32 = .ok (.aload_n 0, 1) := by decide +kernel
theorem dX9_quietFirst_33 : decode cX9_quietFirst 33 = .ok (.getfield 7, 3) := by decide +kernel
theorem dX9_quietFirst_36 : decode cX9_quietFirst 36 = .ok (.iconst 1, 1) := by decide +kernel
theorem dX9_quietFirst_37 : decode cX9_quietFirst 37 = .ok (.bipush 6, 2) := by decide +kernel
