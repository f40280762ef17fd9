theorem dX3_runs_9 : decode cX3_runs 9 = .ok (.iconst (-1), 1) := by decide +kernel
theorem dX3_runs_10 : decode cX3_runs 10 = .ok (.ireturn, 1) := by decide +kernel
theorem dX3_runs_11 : decode cX3_runs 11 = .ok (.iconst 0, 1) := by decide +kernel
theorem dX3_runs_12 : decode cX3_runs 12 = .ok (.istore_n 2, 1) := by decide +kernel
theorem dX3_runs_13 : decode cX3_runs 13 = .ok (.iconst 0, 1) := by decide +kernel
theorem dX3_runs_14 : decode cX3_runs 14 = .ok (.istore_n 3, 1) := by decide +kernel
theorem dX3_runs_15 : decode cX3_runs 15 = .ok (.iload_n 3, 1) := by decide +kernel
theorem dX3_runs_16 : decode cX3_runs 16 = .ok (.aload_n 0, 1) := by decide +kernel
theorem dX3_runs_17 : decode cX3_runs 17 = .ok (.getfield 13, 3) := by decide +kernel
theorem dX3_runs_20 : decode cX3_runs 20 = .ok (.iload_n 1, 1) := by decide +kernel
theorem dX3_runs_21 : decode cX3_runs 21 = .ok (.iaload, 1) := by decide +kernel
theorem dX3_runs_22 : decode cX3_runs 22 = .ok (.if_icmp .ge 50, 3) := by decide +kernel
theorem dX3_runs_25 : decode cX3_runs 25 = .ok (.iload_n 2, 1) := by decide +kernel
theorem dX3_runs_26 : decode cX3_runs 26 = .ok (.iload_n 3, 1) := by decide +kernel
theorem dX3_runs_27 : decode cX3_runs 27 = .ok (.ifCond .eq 32, 3) := by decide +kernel
theorem dX3_runs_30 : decode cX3_runs 30 = .ok (.aload_n 0, 1) := by decide +kernel
theorem dX3_runs_31 : decode cX3_runs 31 = .ok (.getfield 16, 3) := by decide +kernel
theorem dX3_runs_34 : decode cX3_runs 34 = .ok (.bipush 8, 2) := by decide +kernel
theorem dX3_runs_36 : decode cX3_runs 36 = .ok (.iload_n 1, 1) := by decide +kernel
theorem dX3_runs_37 : decode cX3_runs 37 = .ok (.imul, 1) := by decide +kernel
theorem dX3_runs_38 : decode cX3_runs 38 = .ok (.iload_n 3, 1) := by decide +kernel
theorem dX3_runs_39 : decode cX3_runs 39 = .ok (.iadd, 1) := by decide +kernel
theorem dX3_runs_40 : decode cX3_runs 40 = .ok (.iaload, 1) := by decide +kernel
theorem dX3_runs_41 : decode cX3_runs 41 = .ok (.aload_n 0, 1) := by decide +kernel
theorem dX3_runs_42 : decode cX3_runs 42 = .ok (.getfield 16, 3) := by decide +kernel
theorem dX3_runs_45 : decode cX3_runs 45 = .ok (.bipush 8, 2) := by decide +kernel
theorem dX3_runs_47 : decode cX3_runs 47 = .ok (.iload_n 1, 1) := by decide +kernel
theorem dX3_runs_48 : decode cX3_runs 48 = .ok (.imul, 1) := by decide +kernel
theorem dX3_runs_49 : decode cX3_runs 49 = .ok (.iload_n 3, 1) := by decide +kernel
theorem dX3_runs_50 : decode cX3_runs 50 = .ok (.iadd, 1) := by decide +kernel
theorem dX3_runs_51 : decode cX3_runs 51 = .ok (.iconst 1, 1) := by decide +kernel
theorem dX3_runs_52 : decode cX3_runs 52 = .ok (.isub, 1) := by decide +kernel
theorem dX3_runs_53 : decode cX3_runs 53 = .ok (.iaload, 1) := by decide +kernel
theorem dX3_runs_54 : decode cX3_runs 54 = .ok (.iconst 1, 1) := by decide +kernel
theorem dX3_runs_55 : decode cX3_runs 55 = .ok (.iadd, 1) := by decide +kernel
theorem dX3_runs_56 : decode cX3_runs 56 = .ok (.if_icmp .eq 7, 3) := by decide +kernel
theorem dX3_runs_59 : decode cX3_runs 59 = .ok (.iconst 1, 1) := by decide +kernel
theorem dX3_runs_60 : decode cX3_runs 60 = .ok (.goto 4, 3) := by decide +kernel
theorem dX3_runs_63 : decode cX3_runs 63 = .ok (.iconst 0, 1) := by decide +kernel
theorem dX3_runs_64 : decode cX3_runs 64 = .ok (.iadd, 1) := by decide +kernel
theorem dX3_runs_65 : decode cX3_runs 65 = .ok (.istore_n 2, 1) := by decide +kernel
theorem dX3_runs_66 : decode cX3_runs 66 = .ok (.iinc 3 1, 3) := by decide +kernel
theorem dX3_runs_69 : decode cX3_runs 69 = .ok (.goto (-54), 3) := by decide +kernel
theorem dX3_runs_72 : decode cX3_runs 72 = .ok (.iload_n 2, 1) := by decide +kernel
theorem dX3_runs_73 : decode cX3_runs 73 = .ok (.ireturn, 1) := by decide +kernel
set_option maxRecDepth 20000 in
theorem ggX3_count_X3_isUsed : GoodIn wsX3_count wsX3_isUsed := goodIn_r _ [10, 1, 4, 5, 11, 12, 13, 14, 15, 16, 17, 18, 19, 20, 21, 22, 23, 24, 25, 26] (by decide +kernel) (by decide +kernel)
set_option maxRecDepth 20000 in
theorem gX3_count_X3_isUsed : GoodIn wsX3_count (wsV RX3 57 RX3 yX3_isUsed wsX3_isUsed) := goodIn_app (goodIn_of _ (by decide +kernel)) ggX3_count_X3_isUsed
theorem dX3_count_0 : decode cX3_count 0 = .ok (.iconst 0, 1) := by decide +kernel
theorem dX3_count_1 : decode cX3_count 1 = .ok (.istore_n 2, 1) := by decide +kernel
theorem dX3_count_2 : decode cX3_count 2 = .ok (.iconst 0, 1) := by decide +kernel
theorem dX3_count_3 : decode cX3_count 3 = .ok (.istore_n 3, 1) := by decide +kernel
theorem dX3_count_4 : decode cX3_count 4 = .ok (.iload_n 1, 1) := by decide +kernel
theorem dX3_count_5 : decode cX3_count 5 = .ok (.tableswitch 248 0 5 #[39, 74, 110, 115, 120, 198], 39) := by decide +kernel
theorem dX3_count_44 : decode cX3_count 44 = .ok (.iconst 0, 1) := by decide +kernel
theorem dX3_count_45 : decode cX3_count 45 = .ok (.istore 4, 2) := by decide +kernel
theorem dX3_count_47 : decode cX3_count 47 = .ok (.iload 4, 2) := by decide +kernel
theorem dX3_count_49 : decode cX3_count 49 = .ok (.bipush 40, 2) := by decide +kernel
theorem dX3_count_51 : decode cX3_count 51 = .ok (.if_icmp .ge 26, 3) := by decide +kernel
theorem dX3_count_54 : decode cX3_count 54 = .ok (.iload_n 2, 1) := by decide +kernel
theorem dX3_count_55 : decode cX3_count 55 = .ok (.aload_n 0, 1) := by decide +kernel
theorem dX3_count_56 : decode cX3_count 56 = .ok (.iload 4, 2) := by decide +kernel
theorem dX3_count_58 : decode cX3_count 58 = .ok (.invokevirtual 57, 3) := by decide +kernel
theorem dX3_count_61 : decode cX3_count 61 = .ok (.ifCond .eq 7, 3) := by decide +kernel
theorem dX3_count_64 : decode cX3_count 64 = .ok (.iconst 1, 1) := by decide +kernel
theorem dX3_count_65 : decode cX3_count 65 = .ok (.goto 4, 3) := by decide +kernel
theorem dX3_count_68 : decode cX3_count 68 = .ok (.iconst 0, 1) := by decide +kernel
theorem dX3_count_69 : decode cX3_count 69 = .ok (.iadd, 1) := by decide +kernel
theorem dX3_count_70 : decode cX3_count 70 = .ok (.istore_n 2, 1) := by decide +kernel
theorem dX3_count_71 : decode cX3_count 71 = .ok (.iinc 4 1, 3) := by decide +kernel
theorem dX3_count_74 : decode cX3_count 74 = .ok (.goto (-27), 3) := by decide +kernel
theorem dX3_count_77 : decode cX3_count 77 = .ok (.iload_n 2, 1) := by decide +kernel
theorem dX3_count_78 : decode cX3_count 78 = .ok (.ireturn, 1) := by decide +kernel
theorem dX3_count_79 : decode cX3_count 79 = .ok (.iconst 0, 1) := by decide +kernel
theorem dX3_count_80 : decode cX3_count 80 = .ok (.istore 4, 2) := by decide +kernel
theorem dX3_count_82 : decode cX3_count 82 = .ok (.iload 4, 2) := by decide +kernel
theorem dX3_count_84 : decode cX3_count 84 = .ok (.bipush 12, 2) := by decide +kernel
theorem dX3_count_86 : decode cX3_count 86 = .ok (.if_icmp .ge 27, 3) := by decide +kernel
theorem dX3_count_89 : decode cX3_count 89 = .ok (.iload_n 2, 1) := by decide +kernel
theorem dX3_count_90 : decode cX3_count 90 = .ok (.aload_n 0, 1) := by decide +kernel
theorem dX3_count_91 : decode cX3_count 91 = .ok (.getfield 7, 3) := by decide +kernel
theorem dX3_count_94 : decode cX3_count 94 = .ok (.iload 4, 2) := by decide +kernel
theorem dX3_count_96 : decode cX3_count 96 = .ok (.iaload, 1) := by decide +kernel
theorem dX3_count_97 : decode cX3_count 97 = .ok (.ifCond .eq 7, 3) := by decide +kernel
theorem dX3_count_100 : decode cX3_count 100 = .ok (.iconst 1, 1) := by decide +kernel
theorem dX3_count_101 : decode cX3_count 101 = .ok (.goto 4, 3) := by decide +kernel
theorem dX3_count_104 : decode cX3_count 104 = .ok (.iconst 0, 1) := by decide +kernel
theorem dX3_count_105 : decode cX3_count 105 = .ok (.iadd, 1) := by decide +kernel
theorem dX3_count_106 : decode cX3_count 106 = .ok (.istore_n 2, 1) := by decide +kernel
theorem dX3_count_107 : decode cX3_count 107 = .ok (.iinc 4 1, 3) := by decide +kernel
theorem dX3_count_110 : decode cX3_count 110 = .ok (.goto (-28), 3) := by decide +kernel
theorem dX3_count_113 : decode cX3_count 113 = .ok (.iload_n 2, 1) := by decide +kernel
theorem dX3_count_114 : decode cX3_count 114 = .ok (.ireturn, 1) := by decide +kernel
theorem dX3_count_115 : decode cX3_count 115 = .ok (.aload_n 0, 1) := by decide +kernel
theorem dX3_count_116 : decode cX3_count 116 = .ok (.getfield 40, 3) := by decide +kernel
theorem dX3_count_119 : decode cX3_count 119 = .ok (.ireturn, 1) := by decide +kernel
theorem dX3_count_120 : decode cX3_count 120 = .ok (.aload_n 0, 1) := by decide +kernel
theorem dX3_count_121 : decode cX3_count 121 = .ok (.getfield 125, 3) := by decide +kernel
theorem dX3_count_124 : decode cX3_count 124 = .ok (.ireturn, 1) := by decide +kernel
theorem dX3_count_125 : decode cX3_count 125 = .ok (.iconst 0, 1) := by decide +kernel
theorem dX3_count_126 : decode cX3_count 126 = .ok (.istore 4, 2) := by decide +kernel
theorem dX3_count_128 : decode cX3_count 128 = .ok (.iload 4, 2) := by decide +kernel
theorem dX3_count_130 : decode cX3_count 130 = .ok (.bipush 12, 2) := by decide +kernel
theorem dX3_count_132 : decode cX3_count 132 = .ok (.if_icmp .ge 69, 3) := by decide +kernel
theorem dX3_count_135 : decode cX3_count 135 = .ok (.iconst 0, 1) := by decide +kernel
theorem dX3_count_136 : decode cX3_count 136 = .ok (.istore 5, 2) := by decide +kernel
theorem dX3_count_138 : decode cX3_count 138 = .ok (.aload_n 0, 1) := by decide +kernel
theorem dX3_count_139 : decode cX3_count 139 = .ok (.getfield 7, 3) := by decide +kernel
theorem dX3_count_142 : decode cX3_count 142 = .ok (.iload 4, 2) := by decide +kernel
theorem dX3_count_144 : decode cX3_count 144 = .ok (.iaload, 1) := by decide +kernel
theorem dX3_count_145 : decode cX3_count 145 = .ok (.iconst 2, 1) := by decide +kernel
theorem dX3_count_146 : decode cX3_count 146 = .ok (.if_icmp .ne 49, 3) := by decide +kernel
theorem dX3_count_149 : decode cX3_count 149 = .ok (.iload 5, 2) := by decide +kernel
theorem dX3_count_151 : decode cX3_count 151 = .ok (.aload_n 0, 1) := by decide +kernel
theorem dX3_count_152 : decode cX3_count 152 = .ok (.getfield 13, 3) := by decide +kernel
theorem dX3_count_155 : decode cX3_count 155 = .ok (.iload 4, 2) := by decide +kernel
theorem dX3_count_157 : decode cX3_count 157 = .ok (.iaload, 1) := by decide +kernel
theorem dX3_count_158 : decode cX3_count 158 = .ok (.if_icmp .ge 37, 3) := by decide +kernel
theorem dX3_count_161 : decode cX3_count 161 = .ok (.iload_n 2, 1) := by decide +kernel
theorem dX3_count_162 : decode cX3_count 162 = .ok (.aload_n 0, 1) := by decide +kernel
theorem dX3_count_163 : decode cX3_count 163 = .ok (.getfield 16, 3) := by decide +kernel
theorem dX3_count_166 : decode cX3_count 166 = .ok (.bipush 8, 2) := by decide +kernel
theorem dX3_count_168 : decode cX3_count 168 = .ok (.iload 4, 2) := by decide +kernel
theorem dX3_count_170 : decode cX3_count 170 = .ok (.imul, 1) := by decide +kernel
theorem dX3_count_171 : decode cX3_count 171 = .ok (.iload 5, 2) := by decide +kernel
theorem dX3_count_173 : decode cX3_count 173 = .ok (.iadd, 1) := by decide +kernel
theorem dX3_count_174 : decode cX3_count 174 = .ok (.iaload, 1) := by decide +kernel
theorem dX3_count_175 : decode cX3_count 175 = .ok (.iload_n 3, 1) := by decide +kernel
theorem dX3_count_176 : decode cX3_count 176 = .ok (.if_icmp .eq 7, 3) := by decide +kernel
theorem dX3_count_179 : decode cX3_count 179 = .ok (.iconst 1, 1) := by decide +kernel
theorem dX3_count_180 : decode cX3_count 180 = .ok (.goto 4, 3) := by decide +kernel
theorem dX3_count_183 : decode cX3_count 183 = .ok (.iconst 0, 1) := by decide +kernel
theorem dX3_count_184 : decode cX3_count 184 = .ok (.iadd, 1) := by decide +kernel
theorem dX3_count_185 : decode cX3_count 185 = .ok (.istore_n 2, 1) := by decide +kernel
theorem dX3_count_186 : decode cX3_count 186 = .ok (.iinc 3 1, 3) := by decide +kernel
theorem dX3_count_189 : decode cX3_count 189 = .ok (.iinc 5 1, 3) := by decide +kernel
theorem dX3_count_192 : decode cX3_count 192 = .ok (.goto (-54), 3) := by decide +kernel
theorem dX3_count_195 : decode cX3_count 195 = .ok (.iinc 4 1, 3) := by decide +kernel
theorem dX3_count_198 : decode cX3_count 198 = .ok (.goto (-70), 3) := by decide +kernel
theorem dX3_count_201 : decode cX3_count 201 = .ok (.iload_n 2, 1) := by decide +kernel
theorem dX3_count_202 : decode cX3_count 202 = .ok (.ireturn, 1) := by decide +kernel
theorem dX3_count_203 : decode cX3_count 203 = .ok (.iconst 0, 1) := by decide +kernel
theorem dX3_count_204 : decode cX3_count 204 = .ok (.istore 4, 2) := by decide +kernel
theorem dX3_count_206 : decode cX3_count 206 = .ok (.iload 4, 2) := by decide +kernel
theorem dX3_count_208 : decode cX3_count 208 = .ok (.bipush 96, 2) := by decide +kernel
theorem dX3_count_210 : decode cX3_count 210 = .ok (.if_icmp .ge 41, 3) := by decide +kernel
theorem dX3_count_213 : decode cX3_count 213 = .ok (.iload_n 2, 1) := by decide +kernel
theorem dX3_count_214 : decode cX3_count 214 = .ok (.aload_n 0, 1) := by decide +kernel
theorem dX3_count_215 : decode cX3_count 215 = .ok (.getfield 7, 3) := by decide +kernel
theorem dX3_count_218 : decode cX3_count 218 = .ok (.iload 4, 2) := by decide +kernel
theorem dX3_count_220 : decode cX3_count 220 = .ok (.bipush 8, 2) := by decide +kernel
theorem dX3_count_222 : decode cX3_count 222 = .ok (.idiv, 1) := by decide +kernel
theorem dX3_count_223 : decode cX3_count 223 = .ok (.iaload, 1) := by decide +kernel
theorem dX3_count_224 : decode cX3_count 224 = .ok (.iconst 1, 1) := by decide +kernel
theorem dX3_count_225 : decode cX3_count 225 = .ok (.if_icmp .ne 17, 3) := by decide +kernel
theorem dX3_count_228 : decode cX3_count 228 = .ok (.aload_n 0, 1) := by decide +kernel
theorem dX3_count_229 : decode cX3_count 229 = .ok (.getfield 16, 3) := by decide +kernel
theorem dX3_count_232 : decode cX3_count 232 = .ok (.iload 4, 2) := by decide +kernel
theorem dX3_count_234 : decode cX3_count 234 = .ok (.iaload, 1) := by decide +kernel
theorem dX3_count_235 : decode cX3_count 235 = .ok (.ifCond .eq 7, 3) := by decide +kernel
theorem dX3_count_238 : decode cX3_count 238 = .ok (.iconst 1, 1) := by decide +kernel
theorem dX3_count_239 : decode cX3_count 239 = .ok (.goto 4, 3) := by decide +kernel
theorem dX3_count_242 : decode cX3_count 242 = .ok (.iconst 0, 1) := by decide +kernel
theorem dX3_count_243 : decode cX3_count 243 = .ok (.iadd, 1) := by decide +kernel
theorem dX3_count_244 : decode cX3_count 244 = .ok (.istore_n 2, 1) := by decide +kernel
theorem dX3_count_245 : decode cX3_count 245 = .ok (.iinc 4 1, 3) := by decide +kernel
theorem dX3_count_248 : decode cX3_count 248 = .ok (.goto (-42), 3) := by decide +kernel
theorem dX3_count_251 : decode cX3_count 251 = .ok (.iload_n 2, 1) := by decide +kernel
theorem dX3_count_252 : decode cX3_count 252 = .ok (.ireturn, 1) := by decide +kernel
theorem dX3_count_253 : decode cX3_count 253 = .ok (.iconst (-1), 1) := by decide +kernel
theorem dX3_count_254 : decode cX3_count 254 = .ok (.ireturn, 1) := by decide +kernel
theorem dX3_nextEntry_0 : decode cX3_nextEntry 0 = .ok (.iconst (-1), 1) := by decide +kernel
theorem dX3_nextEntry_1 : decode cX3_nextEntry 1 = .ok (.istore_n 3, 1) := by decide +kernel
theorem dX3_nextEntry_2 : decode cX3_nextEntry 2 = .ok (.iconst 0, 1) := by decide +kernel
theorem dX3_nextEntry_3 : decode cX3_nextEntry 3 = .ok (.istore 4, 2) := by decide +kernel
theorem dX3_nextEntry_5 : decode cX3_nextEntry 5 = .ok (.iload 4, 2) := by decide +kernel
theorem dX3_nextEntry_7 : decode cX3_nextEntry 7 = .ok (.bipush 8, 2) := by decide +kernel
theorem dX3_nextEntry_9 : decode cX3_nextEntry 9 = .ok (.if_icmp .ge 82, 3) := by decide +kernel
theorem dX3_nextEntry_12 : decode cX3_nextEntry 12 = .ok (.aload_n 0, 1) := by decide +kernel
theorem dX3_nextEntry_13 : decode cX3_nextEntry 13 = .ok (.getfield 16, 3) := by decide +kernel
theorem dX3_nextEntry_16 : decode cX3_nextEntry 16 = .ok (.bipush 8, 2) := by decide +kernel
theorem dX3_nextEntry_18 : decode cX3_nextEntry 18 = .ok (.iload_n 1, 1) := by decide +kernel
theorem dX3_nextEntry_19 : decode cX3_nextEntry 19 = .ok (.imul, 1) := by decide +kernel
theorem dX3_nextEntry_20 : decode cX3_nextEntry 20 = .ok (.iload 4, 2) := by decide +kernel
theorem dX3_nextEntry_22 : decode cX3_nextEntry 22 = .ok (.iadd, 1) := by decide +kernel
theorem dX3_nextEntry_23 : decode cX3_nextEntry 23 = .ok (.iaload, 1) := by decide +kernel
theorem dX3_nextEntry_24 : decode cX3_nextEntry 24 = .ok (.istore 5, 2) := by decide +kernel
theorem dX3_nextEntry_26 : decode cX3_nextEntry 26 = .ok (.iload 5, 2) := by decide +kernel
theorem dX3_nextEntry_28 : decode cX3_nextEntry 28 = .ok (.ifCond .le 16, 3) := by decide +kernel
theorem dX3_nextEntry_31 : decode cX3_nextEntry 31 = .ok (.iload 5, 2) := by decide +kernel
theorem dX3_nextEntry_33 : decode cX3_nextEntry 33 = .ok (.bipush 100, 2) := by decide +kernel
theorem dX3_nextEntry_35 : decode cX3_nextEntry 35 = .ok (.irem, 1) := by decide +kernel
theorem dX3_nextEntry_36 : decode cX3_nextEntry 36 = .ok (.iload_n 2, 1) := by decide +kernel
theorem dX3_nextEntry_37 : decode cX3_nextEntry 37 = .ok (.if_icmp .le 7, 3) := by decide +kernel
theorem dX3_nextEntry_40 : decode cX3_nextEntry 40 = .ok (.iconst 1, 1) := by decide +kernel
theorem dX3_nextEntry_41 : decode cX3_nextEntry 41 = .ok (.goto 4, 3) := by decide +kernel
theorem dX3_nextEntry_44 : decode cX3_nextEntry 44 = .ok (.iconst 0, 1) := by decide +kernel
theorem dX3_nextEntry_45 : decode cX3_nextEntry 45 = .ok (.istore 6, 2) := by decide +kernel
theorem dX3_nextEntry_47 : decode cX3_nextEntry 47 = .ok (.iload 6, 2) := by decide +kernel
theorem dX3_nextEntry_49 : decode cX3_nextEntry 49 = .ok (.ifCond .eq 34, 3) := by decide +kernel
theorem dX3_nextEntry_52 : decode cX3_nextEntry 52 = .ok (.iload_n 3, 1) := by decide +kernel
theorem dX3_nextEntry_53 : decode cX3_nextEntry 53 = .ok (.ifCond .lt 25, 3) := by decide +kernel
theorem dX3_nextEntry_56 : decode cX3_nextEntry 56 = .ok (.iload 5, 2) := by decide +kernel
theorem dX3_nextEntry_58 : decode cX3_nextEntry 58 = .ok (.bipush 100, 2) := by decide +kernel
theorem dX3_nextEntry_60 : decode cX3_nextEntry 60 = .ok (.irem, 1) := by decide +kernel
theorem dX3_nextEntry_61 : decode cX3_nextEntry 61 = .ok (.aload_n 0, 1) := by decide +kernel
theorem dX3_nextEntry_62 : decode cX3_nextEntry 62 = .ok (.getfield 16, 3) := by decide +kernel
theorem dX3_nextEntry_65 : decode cX3_nextEntry 65 = .ok (.bipush 8, 2) := by decide +kernel
theorem dX3_nextEntry_67 : decode cX3_nextEntry 67 = .ok (.iload_n 1, 1) := by decide +kernel
theorem dX3_nextEntry_68 : decode cX3_nextEntry 68 = .ok (.imul, 1) := by decide +kernel
theorem dX3_nextEntry_69 : decode cX3_nextEntry 69 = .ok (.iload_n 3, 1) := by decide +kernel
theorem dX3_nextEntry_70 : decode cX3_nextEntry 70 = .ok (.iadd, 1) := by decide +kernel
theorem dX3_nextEntry_71 : decode cX3_nextEntry 71 = .ok (.iaload, 1) := by decide +kernel
theorem dX3_nextEntry_72 : decode cX3_nextEntry 72 = .ok (.bipush 100, 2) := by decide +kernel
theorem dX3_nextEntry_74 : decode cX3_nextEntry 74 = .ok (.irem, 1) := by decide +kernel
theorem dX3_nextEntry_75 : decode cX3_nextEntry 75 = .ok (.if_icmp .ge 8, 3) := by decide +kernel
theorem dX3_nextEntry_78 : decode cX3_nextEntry 78 = .ok (.iload 4, 2) := by decide +kernel
theorem dX3_nextEntry_80 : decode cX3_nextEntry 80 = .ok (.goto 4, 3) := by decide +kernel
theorem dX3_nextEntry_83 : decode cX3_nextEntry 83 = .ok (.iload_n 3, 1) := by decide +kernel
theorem dX3_nextEntry_84 : decode cX3_nextEntry 84 = .ok (.istore_n 3, 1) := by decide +kernel
theorem dX3_nextEntry_85 : decode cX3_nextEntry 85 = .ok (.iinc 4 1, 3) := by decide +kernel
theorem dX3_nextEntry_88 : decode cX3_nextEntry 88 = .ok (.goto (-83), 3) := by decide +kernel
theorem dX3_nextEntry_91 : decode cX3_nextEntry 91 = .ok (.iload_n 3, 1) := by decide +kernel
theorem dX3_nextEntry_92 : decode cX3_nextEntry 92 = .ok (.ireturn, 1) := by decide +kernel
set_option maxRecDepth 20000 in
theorem ggX3_tree_X3_nextEntry : GoodIn wsX3_tree wsX3_nextEntry := goodIn_r _ [15, 6, 16, 17, 18, 19, 20, 21, 22, 23, 24, 25, 26, 27, 28, 29, 30, 31] (by decide +kernel) (by decide +kernel)
set_option maxRecDepth 20000 in
theorem gX3_tree_X3_nextEntry : GoodIn wsX3_tree (wsV RX3 153 RX3 yX3_nextEntry wsX3_nextEntry) := goodIn_app (goodIn_of _ (by decide +kernel)) ggX3_tree_X3_nextEntry
theorem dX3_tree_0 : decode cX3_tree 0 = .ok (.ldc2_w 151, 3) := by decide +kernel
theorem dX3_tree_3 : decode cX3_tree 3 = .ok (.lstore_n 1, 1) := by decide +kernel
theorem dX3_tree_4 : decode cX3_tree 4 = .ok (.iconst 1, 1) := by decide +kernel
theorem dX3_tree_5 : decode cX3_tree 5 = .ok (.istore_n 3, 1) := by decide +kernel
theorem dX3_tree_6 : decode cX3_tree 6 = .ok (.iconst 1, 1) := by decide +kernel
theorem dX3_tree_7 : decode cX3_tree 7 = .ok (.istore 4, 2) := by decide +kernel
theorem dX3_tree_9 : decode cX3_tree 9 = .ok (.aload_n 0, 1) := by decide +kernel
theorem dX3_tree_10 : decode cX3_tree 10 = .ok (.getfield 30, 3) := by decide +kernel
theorem dX3_tree_13 : decode cX3_tree 13 = .ok (.iconst 0, 1) := by decide +kernel
theorem dX3_tree_14 : decode cX3_tree 14 = .ok (.iconst 0, 1) := by decide +kernel
theorem dX3_tree_15 : decode cX3_tree 15 = .ok (.iastore, 1) := by decide +kernel
theorem dX3_tree_16 : decode cX3_tree 16 = .ok (.aload_n 0, 1) := by decide +kernel
theorem dX3_tree_17 : decode cX3_tree 17 = .ok (.getfield 33, 3) := by decide +kernel
theorem dX3_tree_20 : decode cX3_tree 20 = .ok (.iconst 0, 1) := by decide +kernel
theorem dX3_tree_21 : decode cX3_tree 21 = .ok (.iconst 0, 1) := by decide +kernel
theorem dX3_tree_22 : decode cX3_tree 22 = .ok (.iastore, 1) := by decide +kernel
theorem dX3_tree_23 : decode cX3_tree 23 = .ok (.iload 4, 2) := by decide +kernel
theorem dX3_tree_25 : decode cX3_tree 25 = .ok (.ifCond .le 252, 3) := by decide +kernel
theorem dX3_tree_28 : decode cX3_tree 28 = .ok (.aload_n 0, 1) := by decide +kernel
theorem dX3_tree_29 : decode cX3_tree 29 = .ok (.getfield 30, 3) := by decide +kernel
theorem dX3_tree_32 : decode cX3_tree 32 = .ok (.iload 4, 2) := by decide +kernel
theorem dX3_tree_34 : decode cX3_tree 34 = .ok (.iconst 1, 1) := by decide +kernel
theorem dX3_tree_35 : decode cX3_tree 35 = .ok (.isub, 1) := by decide +kernel
theorem dX3_tree_36 : decode cX3_tree 36 = .ok (.iaload, 1) := by decide +kernel
theorem dX3_tree_37 : decode cX3_tree 37 = .ok (.istore 5, 2) := by decide +kernel
theorem dX3_tree_39 : decode cX3_tree 39 = .ok (.aload_n 0, 1) := by decide +kernel
theorem dX3_tree_40 : decode cX3_tree 40 = .ok (.iload 5, 2) := by decide +kernel
theorem dX3_tree_42 : decode cX3_tree 42 = .ok (.aload_n 0, 1) := by decide +kernel
theorem dX3_tree_43 : decode cX3_tree 43 = .ok (.getfield 33, 3) := by decide +kernel
theorem dX3_tree_46 : decode cX3_tree 46 = .ok (.iload 4, 2) := by decide +kernel
theorem dX3_tree_48 : decode cX3_tree 48 = .ok (.iconst 1, 1) := by decide +kernel
theorem dX3_tree_49 : decode cX3_tree 49 = .ok (.isub, 1) := by decide +kernel
theorem dX3_tree_50 : decode cX3_tree 50 = .ok (.iaload, 1) := by decide +kernel
theorem dX3_tree_51 : decode cX3_tree 51 = .ok (.invokevirtual 153, 3) := by decide +kernel
theorem dX3_tree_54 : decode cX3_tree 54 = .ok (.istore 6, 2) := by decide +kernel
theorem dX3_tree_56 : decode cX3_tree 56 = .ok (.iload 6, 2) := by decide +kernel
theorem dX3_tree_58 : decode cX3_tree 58 = .ok (.ifCond .ge 19, 3) := by decide +kernel
theorem dX3_tree_61 : decode cX3_tree 61 = .ok (.ldc2_w 156, 3) := by decide +kernel
theorem dX3_tree_64 : decode cX3_tree 64 = .ok (.lload_n 1, 1) := by decide +kernel
theorem dX3_tree_65 : decode cX3_tree 65 = .ok (.lmul, 1) := by decide +kernel
theorem dX3_tree_66 : decode cX3_tree 66 = .ok (.ldc2_w 138, 3) := by decide +kernel
theorem dX3_tree_69 : decode cX3_tree 69 = .ok (.ladd, 1) := by decide +kernel
theorem dX3_tree_70 : decode cX3_tree 70 = .ok (.lstore_n 1, 1) := by decide +kernel
theorem dX3_tree_71 : decode cX3_tree 71 = .ok (.iinc 4 (-1), 3) := by decide +kernel
theorem dX3_tree_74 : decode cX3_tree 74 = .ok (.goto 200, 3) := by decide +kernel
theorem dX3_tree_77 : decode cX3_tree 77 = .ok (.aload_n 0, 1) := by decide +kernel
theorem dX3_tree_78 : decode cX3_tree 78 = .ok (.getfield 16, 3) := by decide +kernel
theorem dX3_tree_81 : decode cX3_tree 81 = .ok (.bipush 8, 2) := by decide +kernel
theorem dX3_tree_83 : decode cX3_tree 83 = .ok (.iload 5, 2) := by decide +kernel
theorem dX3_tree_85 : decode cX3_tree 85 = .ok (.imul, 1) := by decide +kernel
theorem dX3_tree_86 : decode cX3_tree 86 = .ok (.iload 6, 2) := by decide +kernel
theorem dX3_tree_88 : decode cX3_tree 88 = .ok (.iadd, 1) := by decide +kernel
theorem dX3_tree_89 : decode cX3_tree 89 = .ok (.iaload, 1) := by decide +kernel
theorem dX3_tree_90 : decode cX3_tree 90 = .ok (.istore 7, 2) := by decide +kernel
theorem dX3_tree_92 : decode cX3_tree 92 = .ok (.iload 7, 2) := by decide +kernel
theorem dX3_tree_94 : decode cX3_tree 94 = .ok (.bipush 100, 2) := by decide +kernel
theorem dX3_tree_96 : decode cX3_tree 96 = .ok (.idiv, 1) := by decide +kernel
theorem dX3_tree_97 : decode cX3_tree 97 = .ok (.istore 8, 2) := by decide +kernel
theorem dX3_tree_99 : decode cX3_tree 99 = .ok (.aload_n 0, 1) := by decide +kernel
theorem dX3_tree_100 : decode cX3_tree 100 = .ok (.getfield 33, 3) := by decide +kernel
theorem dX3_tree_103 : decode cX3_tree 103 = .ok (.iload 4, 2) := by decide +kernel
theorem dX3_tree_105 : decode cX3_tree 105 = .ok (.iconst 1, 1) := by decide +kernel
theorem dX3_tree_106 : decode cX3_tree 106 = .ok (.isub, 1) := by decide +kernel
theorem dX3_tree_107 : decode cX3_tree 107 = .ok (.iload 7, 2) := by decide +kernel
theorem dX3_tree_109 : decode cX3_tree 109 = .ok (.bipush 100, 2) := by decide +kernel
theorem dX3_tree_111 : decode cX3_tree 111 = .ok (.irem, 1) := by decide +kernel
theorem dX3_tree_112 : decode cX3_tree 112 = .ok (.iastore, 1) := by decide +kernel
theorem dX3_tree_113 : decode cX3_tree 113 = .ok (.aload_n 0, 1) := by decide +kernel
theorem dX3_tree_114 : decode cX3_tree 114 = .ok (.getfield 7, 3) := by decide +kernel
theorem dX3_tree_117 : decode cX3_tree 117 = .ok (.iload 8, 2) := by decide +kernel
theorem dX3_tree_119 : decode cX3_tree 119 = .ok (.iaload, 1) := by decide +kernel
theorem dX3_tree_120 : decode cX3_tree 120 = .ok (.ifCond .eq 154, 3) := by decide +kernel
theorem dX3_tree_123 : decode cX3_tree 123 = .ok (.iload_n 3, 1) := by decide +kernel
theorem dX3_tree_124 : decode cX3_tree 124 = .ok (.iload 8, 2) := by decide +kernel
theorem dX3_tree_126 : decode cX3_tree 126 = .ok (.ishr, 1) := by decide +kernel
theorem dX3_tree_127 : decode cX3_tree 127 = .ok (.iconst 1, 1) := by decide +kernel
theorem dX3_tree_128 : decode cX3_tree 128 = .ok (.iand, 1) := by decide +kernel
theorem dX3_tree_129 : decode cX3_tree 129 = .ok (.ifCond .ne 145, 3) := by decide +kernel
theorem dX3_tree_132 : decode cX3_tree 132 = .ok (.iload_n 3, 1) := by decide +kernel
theorem dX3_tree_133 : decode cX3_tree 133 = .ok (.iconst 1, 1) := by decide +kernel
theorem dX3_tree_134 : decode cX3_tree 134 = .ok (.iload 8, 2) := by decide +kernel
theorem dX3_tree_136 : decode cX3_tree 136 = .ok (.ishl, 1) := by decide +kernel
theorem dX3_tree_137 : decode cX3_tree 137 = .ok (.ior, 1) := by decide +kernel
theorem dX3_tree_138 : decode cX3_tree 138 = .ok (.istore_n 3, 1) := by decide +kernel
theorem dX3_tree_139 : decode cX3_tree 139 = .ok (.ldc2_w 156, 3) := by decide +kernel
theorem dX3_tree_142 : decode cX3_tree 142 = .ok (.lload_n 1, 1) := by decide +kernel
theorem dX3_tree_143 : decode cX3_tree 143 = .ok (.lmul, 1) := by decide +kernel
theorem dX3_tree_144 : decode cX3_tree 144 = .ok (.iload 7, 2) := by decide +kernel
theorem dX3_tree_146 : decode cX3_tree 146 = .ok (.bipush 100, 2) := by decide +kernel
theorem dX3_tree_148 : decode cX3_tree 148 = .ok (.irem, 1) := by decide +kernel
theorem dX3_tree_149 : decode cX3_tree 149 = .ok (.i2l, 1) := by decide +kernel
theorem dX3_tree_150 : decode cX3_tree 150 = .ok (.ladd, 1) := by decide +kernel
theorem dX3_tree_151 : decode cX3_tree 151 = .ok (.lstore_n 1, 1) := by decide +kernel
theorem dX3_tree_152 : decode cX3_tree 152 = .ok (.aload_n 0, 1) := by decide +kernel
theorem dX3_tree_153 : decode cX3_tree 153 = .ok (.getfield 7, 3) := by decide +kernel
theorem dX3_tree_156 : decode cX3_tree 156 = .ok (.iload 8, 2) := by decide +kernel
theorem dX3_tree_158 : decode cX3_tree 158 = .ok (.iaload, 1) := by decide +kernel
theorem dX3_tree_159 : decode cX3_tree 159 = .ok (.iconst 1, 1) := by decide +kernel
theorem dX3_tree_160 : decode cX3_tree 160 = .ok (.if_icmp .ne 34, 3) := by decide +kernel
theorem dX3_tree_163 : decode cX3_tree 163 = .ok (.ldc2_w 156, 3) := by decide +kernel
theorem dX3_tree_166 : decode cX3_tree 166 = .ok (.lload_n 1, 1) := by decide +kernel
theorem dX3_tree_167 : decode cX3_tree 167 = .ok (.lmul, 1) := by decide +kernel
theorem dX3_tree_168 : decode cX3_tree 168 = .ok (.lconst 1, 1) := by decide +kernel
theorem dX3_tree_169 : decode cX3_tree 169 = .ok (.ladd, 1) := by decide +kernel
theorem dX3_tree_170 : decode cX3_tree 170 = .ok (.lstore_n 1, 1) := by decide +kernel
theorem dX3_tree_171 : decode cX3_tree 171 = .ok (.aload_n 0, 1) := by decide +kernel
theorem dX3_tree_172 : decode cX3_tree 172 = .ok (.getfield 30, 3) := by decide +kernel
theorem dX3_tree_175 : decode cX3_tree 175 = .ok (.iload 4, 2) := by decide +kernel
theorem dX3_tree_177 : decode cX3_tree 177 = .ok (.iload 8, 2) := by decide +kernel
theorem dX3_tree_179 : decode cX3_tree 179 = .ok (.iastore, 1) := by decide +kernel
theorem dX3_tree_180 : decode cX3_tree 180 = .ok (.aload_n 0, 1) := by decide +kernel
theorem dX3_tree_181 : decode cX3_tree 181 = .ok (.getfield 33, 3) := by decide +kernel
theorem dX3_tree_184 : decode cX3_tree 184 = .ok (.iload 4, 2) := by decide +kernel
theorem dX3_tree_186 : decode cX3_tree 186 = .ok (.iconst 0, 1) := by decide +kernel
theorem dX3_tree_187 : decode cX3_tree 187 = .ok (.iastore, 1) := by decide +kernel
theorem dX3_tree_188 : decode cX3_tree 188 = .ok (.iinc 4 1, 3) := by decide +kernel
theorem dX3_tree_191 : decode cX3_tree 191 = .ok (.goto 83, 3) := by decide +kernel
theorem dX3_tree_194 : decode cX3_tree 194 = .ok (.ldc2_w 156, 3) := by decide +kernel
theorem dX3_tree_197 : decode cX3_tree 197 = .ok (.ldc2_w 156, 3) := by decide +kernel
theorem dX3_tree_200 : decode cX3_tree 200 = .ok (.lload_n 1, 1) := by decide +kernel
theorem dX3_tree_201 : decode cX3_tree 201 = .ok (.lmul, 1) := by decide +kernel
theorem dX3_tree_202 : decode cX3_tree 202 = .ok (.ldc2_w 68, 3) := by decide +kernel
theorem dX3_tree_205 : decode cX3_tree 205 = .ok (.ladd, 1) := by decide +kernel
theorem dX3_tree_206 : decode cX3_tree 206 = .ok (.lmul, 1) := by decide +kernel
theorem dX3_tree_207 : decode cX3_tree 207 = .ok (.aload_n 0, 1) := by decide +kernel
theorem dX3_tree_208 : decode cX3_tree 208 = .ok (.getfield 13, 3) := by decide +kernel
theorem dX3_tree_211 : decode cX3_tree 211 = .ok (.iload 8, 2) := by decide +kernel
theorem dX3_tree_213 : decode cX3_tree 213 = .ok (.iaload, 1) := by decide +kernel
theorem dX3_tree_214 : decode cX3_tree 214 = .ok (.i2l, 1) := by decide +kernel
theorem dX3_tree_215 : decode cX3_tree 215 = .ok (.ladd, 1) := by decide +kernel
theorem dX3_tree_216 : decode cX3_tree 216 = .ok (.lstore_n 1, 1) := by decide +kernel
theorem dX3_tree_217 : decode cX3_tree 217 = .ok (.iconst 0, 1) := by decide +kernel
theorem dX3_tree_218 : decode cX3_tree 218 = .ok (.istore 9, 2) := by decide +kernel
theorem dX3_tree_220 : decode cX3_tree 220 = .ok (.iload 9, 2) := by decide +kernel
theorem dX3_tree_222 : decode cX3_tree 222 = .ok (.iconst 3, 1) := by decide +kernel
theorem dX3_tree_223 : decode cX3_tree 223 = .ok (.aload_n 0, 1) := by decide +kernel
theorem dX3_tree_224 : decode cX3_tree 224 = .ok (.getfield 13, 3) := by decide +kernel
theorem dX3_tree_227 : decode cX3_tree 227 = .ok (.iload 8, 2) := by decide +kernel
theorem dX3_tree_229 : decode cX3_tree 229 = .ok (.iaload, 1) := by decide +kernel
theorem dX3_tree_230 : decode cX3_tree 230 = .ok (.imul, 1) := by decide +kernel
theorem dX3_tree_231 : decode cX3_tree 231 = .ok (.if_icmp .ge 43, 3) := by decide +kernel
theorem dX3_tree_234 : decode cX3_tree 234 = .ok (.ldc2_w 156, 3) := by decide +kernel
theorem dX3_tree_237 : decode cX3_tree 237 = .ok (.lload_n 1, 1) := by decide +kernel
theorem dX3_tree_238 : decode cX3_tree 238 = .ok (.lmul, 1) := by decide +kernel
theorem dX3_tree_239 : decode cX3_tree 239 = .ok (.aload_n 0, 1) := by decide +kernel
theorem dX3_tree_240 : decode cX3_tree 240 = .ok (.getfield 19, 3) := by decide +kernel
theorem dX3_tree_243 : decode cX3_tree 243 = .ok (.iconst 3, 1) := by decide +kernel
theorem dX3_tree_244 : decode cX3_tree 244 = .ok (.aload_n 0, 1) := by decide +kernel
theorem dX3_tree_245 : decode cX3_tree 245 = .ok (.getfield 16, 3) := by decide +kernel
theorem dX3_tree_248 : decode cX3_tree 248 = .ok (.bipush 8, 2) := by decide +kernel
theorem dX3_tree_250 : decode cX3_tree 250 = .ok (.iload 8, 2) := by decide +kernel
theorem dX3_tree_252 : decode cX3_tree 252 = .ok (.imul, 1) := by decide +kernel
theorem dX3_tree_253 : decode cX3_tree 253 = .ok (.iload 9, 2) := by decide +kernel
theorem dX3_tree_255 : decode cX3_tree 255 = .ok (.iconst 3, 1) := by decide +kernel
theorem dX3_tree_256 : decode cX3_tree 256 = .ok (.idiv, 1) := by decide +kernel
theorem dX3_tree_257 : decode cX3_tree 257 = .ok (.iadd, 1) := by decide +kernel
theorem dX3_tree_258 : decode cX3_tree 258 = .ok (.iaload, 1) := by decide +kernel
theorem dX3_tree_259 : decode cX3_tree 259 = .ok (.imul, 1) := by decide +kernel
theorem dX3_tree_260 : decode cX3_tree 260 = .ok (.iload 9, 2) := by decide +kernel
theorem dX3_tree_262 : decode cX3_tree 262 = .ok (.iconst 3, 1) := by decide +kernel
theorem dX3_tree_263 : decode cX3_tree 263 = .ok (.irem, 1) := by decide +kernel
theorem dX3_tree_264 : decode cX3_tree 264 = .ok (.iadd, 1) := by decide +kernel
theorem dX3_tree_265 : decode cX3_tree 265 = .ok (.laload, 1) := by decide +kernel
theorem dX3_tree_266 : decode cX3_tree 266 = .ok (.ladd, 1) := by decide +kernel
theorem dX3_tree_267 : decode cX3_tree 267 = .ok (.lstore_n 1, 1) := by decide +kernel
theorem dX3_tree_268 : decode cX3_tree 268 = .ok (.iinc 9 1, 3) := by decide +kernel
theorem dX3_tree_271 : decode cX3_tree 271 = .ok (.goto (-51), 3) := by decide +kernel
theorem dX3_tree_274 : decode cX3_tree 274 = .ok (.goto (-251), 3) := by decide +kernel
theorem dX3_tree_277 : decode cX3_tree 277 = .ok (.lload_n 1, 1) := by decide +kernel
theorem dX3_tree_278 : decode cX3_tree 278 = .ok (.lreturn, 1) := by decide +kernel
set_option maxRecDepth 20000 in
theorem ggX3_digest_X3_inodeOf : GoodIn wsX3_digest wsX3_inodeOf := goodIn_r _ [9, 10, 11, 12, 18, 19, 20, 21, 22, 23, 24, 25, 26, 27, 28, 29, 30, 31, 32, 33] (by decide +kernel) (by decide +kernel)
set_option maxRecDepth 20000 in
theorem gX3_digest_X3_inodeOf : GoodIn wsX3_digest (wsV RX3 140 RX3 yX3_inodeOf wsX3_inodeOf) := goodIn_app (goodIn_of _ (by decide +kernel)) ggX3_digest_X3_inodeOf
set_option maxRecDepth 20000 in
theorem ggX3_digest_X3_isDown : GoodIn wsX3_digest wsX3_isDown := goodIn_r _ [16, 17, 18, 19, 20, 21, 22, 23, 24, 25, 26, 27, 28, 29, 30, 31, 32, 33] (by decide +kernel) (by decide +kernel)
set_option maxRecDepth 20000 in
theorem gX3_digest_X3_isDown : GoodIn wsX3_digest (wsV RX3 158 RX3 yX3_isDown wsX3_isDown) := goodIn_app (goodIn_of _ (by decide +kernel)) ggX3_digest_X3_isDown
theorem dX3_digest_0 : decode cX3_digest 0 = .ok (.ldc2_w 149, 3) := by decide +kernel
theorem dX3_digest_3 : decode cX3_digest 3 = .ok (.lstore_n 1, 1) := by decide +kernel
theorem dX3_digest_4 : decode cX3_digest 4 = .ok (.iconst 0, 1) := by decide +kernel
theorem dX3_digest_5 : decode cX3_digest 5 = .ok (.istore_n 3, 1) := by decide +kernel
theorem dX3_digest_6 : decode cX3_digest 6 = .ok (.iload_n 3, 1) := by decide +kernel
theorem dX3_digest_7 : decode cX3_digest 7 = .ok (.bipush 12, 2) := by decide +kernel
theorem dX3_digest_9 : decode cX3_digest 9 = .ok (.if_icmp .ge 40, 3) := by decide +kernel
theorem dX3_digest_12 : decode cX3_digest 12 = .ok (.iconst 0, 1) := by decide +kernel
theorem dX3_digest_13 : decode cX3_digest 13 = .ok (.istore 4, 2) := by decide +kernel
theorem dX3_digest_15 : decode cX3_digest 15 = .ok (.iload 4, 2) := by decide +kernel
theorem dX3_digest_17 : decode cX3_digest 17 = .ok (.bipush 10, 2) := by decide +kernel
theorem dX3_digest_19 : decode cX3_digest 19 = .ok (.if_icmp .ge 24, 3) := by decide +kernel
theorem dX3_digest_22 : decode cX3_digest 22 = .ok (.ldc2_w 156, 3) := by decide +kernel
theorem dX3_digest_25 : decode cX3_digest 25 = .ok (.lload_n 1, 1) := by decide +kernel
theorem dX3_digest_26 : decode cX3_digest 26 = .ok (.lmul, 1) := by decide +kernel
theorem dX3_digest_27 : decode cX3_digest 27 = .ok (.aload_n 0, 1) := by decide +kernel
theorem dX3_digest_28 : decode cX3_digest 28 = .ok (.iload_n 3, 1) := by decide +kernel
theorem dX3_digest_29 : decode cX3_digest 29 = .ok (.iload 4, 2) := by decide +kernel
theorem dX3_digest_31 : decode cX3_digest 31 = .ok (.invokevirtual 140, 3) := by decide +kernel
theorem dX3_digest_34 : decode cX3_digest 34 = .ok (.i2l, 1) := by decide +kernel
theorem dX3_digest_35 : decode cX3_digest 35 = .ok (.ladd, 1) := by decide +kernel
theorem dX3_digest_36 : decode cX3_digest 36 = .ok (.lstore_n 1, 1) := by decide +kernel
theorem dX3_digest_37 : decode cX3_digest 37 = .ok (.iinc 4 1, 3) := by decide +kernel
theorem dX3_digest_40 : decode cX3_digest 40 = .ok (.goto (-25), 3) := by decide +kernel
theorem dX3_digest_43 : decode cX3_digest 43 = .ok (.iinc 3 1, 3) := by decide +kernel
theorem dX3_digest_46 : decode cX3_digest 46 = .ok (.goto (-40), 3) := by decide +kernel
theorem dX3_digest_49 : decode cX3_digest 49 = .ok (.iconst 0, 1) := by decide +kernel
theorem dX3_digest_50 : decode cX3_digest 50 = .ok (.istore_n 3, 1) := by decide +kernel
theorem dX3_digest_51 : decode cX3_digest 51 = .ok (.iload_n 3, 1) := by decide +kernel
theorem dX3_digest_52 : decode cX3_digest 52 = .ok (.bipush 120, 2) := by decide +kernel
theorem dX3_digest_54 : decode cX3_digest 54 = .ok (.if_icmp .ge 22, 3) := by decide +kernel
theorem dX3_digest_57 : decode cX3_digest 57 = .ok (.ldc2_w 156, 3) := by decide +kernel
theorem dX3_digest_60 : decode cX3_digest 60 = .ok (.lload_n 1, 1) := by decide +kernel
theorem dX3_digest_61 : decode cX3_digest 61 = .ok (.lmul, 1) := by decide +kernel
theorem dX3_digest_62 : decode cX3_digest 62 = .ok (.aload_n 0, 1) := by decide +kernel
theorem dX3_digest_63 : decode cX3_digest 63 = .ok (.getfield 19, 3) := by decide +kernel
theorem dX3_digest_66 : decode cX3_digest 66 = .ok (.iload_n 3, 1) := by decide +kernel
theorem dX3_digest_67 : decode cX3_digest 67 = .ok (.laload, 1) := by decide +kernel
theorem dX3_digest_68 : decode cX3_digest 68 = .ok (.ladd, 1) := by decide +kernel
theorem dX3_digest_69 : decode cX3_digest 69 = .ok (.lstore_n 1, 1) := by decide +kernel
theorem dX3_digest_70 : decode cX3_digest 70 = .ok (.iinc 3 1, 3) := by decide +kernel
theorem dX3_digest_73 : decode cX3_digest 73 = .ok (.goto (-22), 3) := by decide +kernel
theorem dX3_digest_76 : decode cX3_digest 76 = .ok (.iconst 0, 1) := by decide +kernel
theorem dX3_digest_77 : decode cX3_digest 77 = .ok (.istore_n 3, 1) := by decide +kernel
theorem dX3_digest_78 : decode cX3_digest 78 = .ok (.iload_n 3, 1) := by decide +kernel
theorem dX3_digest_79 : decode cX3_digest 79 = .ok (.iconst 4, 1) := by decide +kernel
theorem dX3_digest_80 : decode cX3_digest 80 = .ok (.if_icmp .ge 23, 3) := by decide +kernel
theorem dX3_digest_83 : decode cX3_digest 83 = .ok (.ldc2_w 156, 3) := by decide +kernel
theorem dX3_digest_86 : decode cX3_digest 86 = .ok (.lload_n 1, 1) := by decide +kernel
theorem dX3_digest_87 : decode cX3_digest 87 = .ok (.lmul, 1) := by decide +kernel
theorem dX3_digest_88 : decode cX3_digest 88 = .ok (.aload_n 0, 1) := by decide +kernel
theorem dX3_digest_89 : decode cX3_digest 89 = .ok (.getfield 23, 3) := by decide +kernel
theorem dX3_digest_92 : decode cX3_digest 92 = .ok (.iload_n 3, 1) := by decide +kernel
theorem dX3_digest_93 : decode cX3_digest 93 = .ok (.iaload, 1) := by decide +kernel
theorem dX3_digest_94 : decode cX3_digest 94 = .ok (.i2l, 1) := by decide +kernel
theorem dX3_digest_95 : decode cX3_digest 95 = .ok (.ladd, 1) := by decide +kernel
theorem dX3_digest_96 : decode cX3_digest 96 = .ok (.lstore_n 1, 1) := by decide +kernel
theorem dX3_digest_97 : decode cX3_digest 97 = .ok (.iinc 3 1, 3) := by decide +kernel
theorem dX3_digest_100 : decode cX3_digest 100 = .ok (.goto (-22), 3) := by decide +kernel
theorem dX3_digest_103 : decode cX3_digest 103 = .ok (.ldc2_w 156, 3) := by decide +kernel
theorem dX3_digest_106 : decode cX3_digest 106 = .ok (.lload_n 1, 1) := by decide +kernel
theorem dX3_digest_107 : decode cX3_digest 107 = .ok (.lmul, 1) := by decide +kernel
theorem dX3_digest_108 : decode cX3_digest 108 = .ok (.aload_n 0, 1) := by decide +kernel
theorem dX3_digest_109 : decode cX3_digest 109 = .ok (.invokevirtual 158, 3) := by decide +kernel
theorem dX3_digest_112 : decode cX3_digest 112 = .ok (.i2l, 1) := by decide +kernel
theorem dX3_digest_113 : decode cX3_digest 113 = .ok (.ladd, 1) := by decide +kernel
theorem dX3_digest_114 : decode cX3_digest 114 = .ok (.lreturn, 1) := by decide +kernel
theorem dJ13_bitCount_95d88_0 : decode cJ13_bitCount_95d88 0 = .ok (.lload_n 0, 1) := by decide +kernel
theorem dJ13_bitCount_95d88_1 : decode cJ13_bitCount_95d88 1 = .ok (.lload_n 0, 1) := by decide +kernel
theorem dJ13_bitCount_95d88_2 : decode cJ13_bitCount_95d88 2 = .ok (.iconst 1, 1) := by decide +kernel
theorem dJ13_bitCount_95d88_3 : decode cJ13_bitCount_95d88 3 = .ok (.lushr, 1) := by decide +kernel
theorem dJ13_bitCount_95d88_4 : decode cJ13_bitCount_95d88 4 = .ok (.ldc2_w 314, 3) := by decide +kernel
theorem dJ13_bitCount_95d88_7 : decode cJ13_bitCount_95d88 7 = .ok (.land, 1) := by decide +kernel
theorem dJ13_bitCount_95d88_8 : decode cJ13_bitCount_95d88 8 = .ok (.lsub, 1) := by decide +kernel
theorem dJ13_bitCount_95d88_9 : decode cJ13_bitCount_95d88 9 = .ok (.lstore_n 0, 1) := by decide +kernel
theorem dJ13_bitCount_95d88_10 : decode cJ13_bitCount_95d88 10 = .ok (.lload_n 0, 1) := by decide +kernel
theorem dJ13_bitCount_95d88_11 : decode cJ13_bitCount_95d88 11 = .ok (.ldc2_w 316, 3) := by decide +kernel
theorem dJ13_bitCount_95d88_14 : decode cJ13_bitCount_95d88 14 = .ok (.land, 1) := by decide +kernel
theorem dJ13_bitCount_95d88_15 : decode cJ13_bitCount_95d88 15 = .ok (.lload_n 0, 1) := by decide +kernel
theorem dJ13_bitCount_95d88_16 : decode cJ13_bitCount_95d88 16 = .ok (.iconst 2, 1) := by decide +kernel
theorem dJ13_bitCount_95d88_17 : decode cJ13_bitCount_95d88 17 = .ok (.lushr, 1) := by decide +kernel
theorem dJ13_bitCount_95d88_18 : decode cJ13_bitCount_95d88 18 = .ok (.ldc2_w 316, 3) := by decide +kernel
theorem dJ13_bitCount_95d88_21 : decode cJ13_bitCount_95d88 21 = .ok (.land, 1) := by decide +kernel
theorem dJ13_bitCount_95d88_22 : decode cJ13_bitCount_95d88 22 = .ok (.ladd, 1) := by decide +kernel
theorem dJ13_bitCount_95d88_23 : decode cJ13_bitCount_95d88 23 = .ok (.lstore_n 0, 1) := by decide +kernel
theorem dJ13_bitCount_95d88_24 : decode cJ13_bitCount_95d88 24 = .ok (.lload_n 0, 1) := by decide +kernel
theorem dJ13_bitCount_95d88_25 : decode cJ13_bitCount_95d88 25 = .ok (.lload_n 0, 1) := by decide +kernel
theorem dJ13_bitCount_95d88_26 : decode cJ13_bitCount_95d88 26 = .ok (.iconst 4, 1) := by decide +kernel
theorem dJ13_bitCount_95d88_27 : decode cJ13_bitCount_95d88 27 = .ok (.lushr, 1) := by decide +kernel
theorem dJ13_bitCount_95d88_28 : decode cJ13_bitCount_95d88 28 = .ok (.ladd, 1) := by decide +kernel
theorem dJ13_bitCount_95d88_29 : decode cJ13_bitCount_95d88 29 = .ok (.ldc2_w 318, 3) := by decide +kernel
theorem dJ13_bitCount_95d88_32 : decode cJ13_bitCount_95d88 32 = .ok (.land, 1) := by decide +kernel
theorem dJ13_bitCount_95d88_33 : decode cJ13_bitCount_95d88 33 = .ok (.lstore_n 0, 1) := by decide +kernel
theorem dJ13_bitCount_95d88_34 : decode cJ13_bitCount_95d88 34 = .ok (.lload_n 0, 1) := by decide +kernel
theorem dJ13_bitCount_95d88_35 : decode cJ13_bitCount_95d88 35 = .ok (.lload_n 0, 1) := by decide +kernel
theorem dJ13_bitCount_95d88_36 : decode cJ13_bitCount_95d88 36 = .ok (.bipush 8, 2) := by decide +kernel
theorem dJ13_bitCount_95d88_38 : decode cJ13_bitCount_95d88 38 = .ok (.lushr, 1) := by decide +kernel
theorem dJ13_bitCount_95d88_39 : decode cJ13_bitCount_95d88 39 = .ok (.ladd, 1) := by decide +kernel
theorem dJ13_bitCount_95d88_40 : decode cJ13_bitCount_95d88 40 = .ok (.lstore_n 0, 1) := by decide +kernel
theorem dJ13_bitCount_95d88_41 : decode cJ13_bitCount_95d88 41 = .ok (.lload_n 0, 1) := by decide +kernel
theorem dJ13_bitCount_95d88_42 : decode cJ13_bitCount_95d88 42 = .ok (.lload_n 0, 1) := by decide +kernel
theorem dJ13_bitCount_95d88_43 : decode cJ13_bitCount_95d88 43 = .ok (.bipush 16, 2) := by decide +kernel
theorem dJ13_bitCount_95d88_45 : decode cJ13_bitCount_95d88 45 = .ok (.lushr, 1) := by decide +kernel
theorem dJ13_bitCount_95d88_46 : decode cJ13_bitCount_95d88 46 = .ok (.ladd, 1) := by decide +kernel
theorem dJ13_bitCount_95d88_47 : decode cJ13_bitCount_95d88 47 = .ok (.lstore_n 0, 1) := by decide +kernel
theorem dJ13_bitCount_95d88_48 : decode cJ13_bitCount_95d88 48 = .ok (.lload_n 0, 1) := by decide +kernel
theorem dJ13_bitCount_95d88_49 : decode cJ13_bitCount_95d88 49 = .ok (.lload_n 0, 1) := by decide +kernel
theorem dJ13_bitCount_95d88_50 : decode cJ13_bitCount_95d88 50 = .ok (.bipush 32, 2) := by decide +kernel
theorem dJ13_bitCount_95d88_52 : decode cJ13_bitCount_95d88 52 = .ok (.lushr, 1) := by decide +kernel
theorem dJ13_bitCount_95d88_53 : decode cJ13_bitCount_95d88 53 = .ok (.ladd, 1) := by decide +kernel
theorem dJ13_bitCount_95d88_54 : decode cJ13_bitCount_95d88 54 = .ok (.lstore_n 0, 1) := by decide +kernel
theorem dJ13_bitCount_95d88_55 : decode cJ13_bitCount_95d88 55 = .ok (.lload_n 0, 1) := by decide +kernel
theorem dJ13_bitCount_95d88_56 : decode cJ13_bitCount_95d88 56 = .ok (.l2i, 1) := by decide +kernel
theorem dJ13_bitCount_95d88_57 : decode cJ13_bitCount_95d88 57 = .ok (.bipush 127, 2) := by decide +kernel
theorem dJ13_bitCount_95d88_59 : decode cJ13_bitCount_95d88 59 = .ok (.iand, 1) := by decide +kernel
theorem dJ13_bitCount_95d88_60 : decode cJ13_bitCount_95d88 60 = .ok (.ireturn, 1) := by decide +kernel
