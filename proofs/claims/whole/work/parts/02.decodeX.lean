theorem dX0_init_0 : decode cX0_init 0 = .ok (.aload_n 0, 1) := by decide +kernel
theorem dX0_init_1 : decode cX0_init 1 = .ok (.invokespecial 3, 3) := by decide +kernel
theorem dX0_init_4 : decode cX0_init 4 = .ok (.aload_n 0, 1) := by decide +kernel
theorem dX0_init_5 : decode cX0_init 5 = .ok (.iconst 4, 1) := by decide +kernel
theorem dX0_init_6 : decode cX0_init 6 = .ok (.newarray .int, 2) := by decide +kernel
theorem dX0_init_8 : decode cX0_init 8 = .ok (.putfield 9, 3) := by decide +kernel
theorem dX0_init_11 : decode cX0_init 11 = .ok (.aload_n 0, 1) := by decide +kernel
theorem dX0_init_12 : decode cX0_init 12 = .ok (.bipush 6, 2) := by decide +kernel
theorem dX0_init_14 : decode cX0_init 14 = .ok (.newarray .int, 2) := by decide +kernel
theorem dX0_init_16 : decode cX0_init 16 = .ok (.putfield 15, 3) := by decide +kernel
theorem dX0_init_19 : decode cX0_init 19 = .ok (.aload_n 0, 1) := by decide +kernel
theorem dX0_init_20 : decode cX0_init 20 = .ok (.bipush 6, 2) := by decide +kernel
theorem dX0_init_22 : decode cX0_init 22 = .ok (.newarray .int, 2) := by decide +kernel
theorem dX0_init_24 : decode cX0_init 24 = .ok (.putfield 18, 3) := by decide +kernel
theorem dX0_init_27 : decode cX0_init 27 = .ok (.aload_n 0, 1) := by decide +kernel
theorem dX0_init_28 : decode cX0_init 28 = .ok (.bipush 6, 2) := by decide +kernel
theorem dX0_init_30 : decode cX0_init 30 = .ok (.newarray .int, 2) := by decide +kernel
theorem dX0_init_32 : decode cX0_init 32 = .ok (.putfield 21, 3) := by decide +kernel
theorem dX0_init_35 : decode cX0_init 35 = .ok (.aload_n 0, 1) := by decide +kernel
theorem dX0_init_36 : decode cX0_init 36 = .ok (.iconst 5, 1) := by decide +kernel
theorem dX0_init_37 : decode cX0_init 37 = .ok (.newarray .int, 2) := by decide +kernel
theorem dX0_init_39 : decode cX0_init 39 = .ok (.putfield 24, 3) := by decide +kernel
theorem dX0_init_42 : decode cX0_init 42 = .ok (.aload_n 0, 1) := by decide +kernel
theorem dX0_init_43 : decode cX0_init 43 = .ok (.iconst 5, 1) := by decide +kernel
theorem dX0_init_44 : decode cX0_init 44 = .ok (.newarray .int, 2) := by decide +kernel
theorem dX0_init_46 : decode cX0_init 46 = .ok (.putfield 27, 3) := by decide +kernel
theorem dX0_init_49 : decode cX0_init 49 = .ok (.aload_n 0, 1) := by decide +kernel
theorem dX0_init_50 : decode cX0_init 50 = .ok (.bipush 12, 2) := by decide +kernel
theorem dX0_init_52 : decode cX0_init 52 = .ok (.newarray .int, 2) := by decide +kernel
theorem dX0_init_54 : decode cX0_init 54 = .ok (.putfield 30, 3) := by decide +kernel
theorem dX0_init_57 : decode cX0_init 57 = .ok (.aload_n 0, 1) := by decide +kernel
theorem dX0_init_58 : decode cX0_init 58 = .ok (.iconst 0, 1) := by decide +kernel
theorem dX0_init_59 : decode cX0_init 59 = .ok (.putfield 33, 3) := by decide +kernel
theorem dX0_init_62 : decode cX0_init 62 = .ok (.return_, 1) := by decide +kernel
theorem dX0_clear_0 : decode cX0_clear 0 = .ok (.aload_n 0, 1) := by decide +kernel
theorem dX0_clear_1 : decode cX0_clear 1 = .ok (.iconst 0, 1) := by decide +kernel
theorem dX0_clear_2 : decode cX0_clear 2 = .ok (.putfield 37, 3) := by decide +kernel
theorem dX0_clear_5 : decode cX0_clear 5 = .ok (.aload_n 0, 1) := by decide +kernel
theorem dX0_clear_6 : decode cX0_clear 6 = .ok (.iconst 0, 1) := by decide +kernel
theorem dX0_clear_7 : decode cX0_clear 7 = .ok (.putfield 40, 3) := by decide +kernel
theorem dX0_clear_10 : decode cX0_clear 10 = .ok (.aload_n 0, 1) := by decide +kernel
theorem dX0_clear_11 : decode cX0_clear 11 = .ok (.iconst 0, 1) := by decide +kernel
theorem dX0_clear_12 : decode cX0_clear 12 = .ok (.putfield 43, 3) := by decide +kernel
theorem dX0_clear_15 : decode cX0_clear 15 = .ok (.aload_n 0, 1) := by decide +kernel
theorem dX0_clear_16 : decode cX0_clear 16 = .ok (.iconst 0, 1) := by decide +kernel
theorem dX0_clear_17 : decode cX0_clear 17 = .ok (.putfield 33, 3) := by decide +kernel
theorem dX0_clear_20 : decode cX0_clear 20 = .ok (.iconst 0, 1) := by decide +kernel
theorem dX0_clear_21 : decode cX0_clear 21 = .ok (.istore_n 1, 1) := by decide +kernel
theorem dX0_clear_22 : decode cX0_clear 22 = .ok (.iload_n 1, 1) := by decide +kernel
theorem dX0_clear_23 : decode cX0_clear 23 = .ok (.aload_n 0, 1) := by decide +kernel
theorem dX0_clear_24 : decode cX0_clear 24 = .ok (.getfield 30, 3) := by decide +kernel
theorem dX0_clear_27 : decode cX0_clear 27 = .ok (.arraylength, 1) := by decide +kernel
theorem dX0_clear_28 : decode cX0_clear 28 = .ok (.if_icmp .ge 16, 3) := by decide +kernel
theorem dX0_clear_31 : decode cX0_clear 31 = .ok (.aload_n 0, 1) := by decide +kernel
theorem dX0_clear_32 : decode cX0_clear 32 = .ok (.getfield 30, 3) := by decide +kernel
theorem dX0_clear_35 : decode cX0_clear 35 = .ok (.iload_n 1, 1) := by decide +kernel
theorem dX0_clear_36 : decode cX0_clear 36 = .ok (.iconst 0, 1) := by decide +kernel
theorem dX0_clear_37 : decode cX0_clear 37 = .ok (.iastore, 1) := by decide +kernel
theorem dX0_clear_38 : decode cX0_clear 38 = .ok (.iinc 1 1, 3) := by decide +kernel
theorem dX0_clear_41 : decode cX0_clear 41 = .ok (.goto (-19), 3) := by decide +kernel
theorem dX0_clear_44 : decode cX0_clear 44 = .ok (.return_, 1) := by decide +kernel
theorem dX0_isWhole_0 : decode cX0_isWhole 0 = .ok (.aload_n 0, 1) := by decide +kernel
theorem dX0_isWhole_1 : decode cX0_isWhole 1 = .ok (.getfield 33, 3) := by decide +kernel
theorem dX0_isWhole_4 : decode cX0_isWhole 4 = .ok (.iconst 1, 1) := by decide +kernel
theorem dX0_isWhole_5 : decode cX0_isWhole 5 = .ok (.if_icmp .ne 7, 3) := by decide +kernel
theorem dX0_isWhole_8 : decode cX0_isWhole 8 = .ok (.iconst 1, 1) := by decide +kernel
theorem dX0_isWhole_9 : decode cX0_isWhole 9 = .ok (.goto 4, 3) := by decide +kernel
theorem dX0_isWhole_12 : decode cX0_isWhole 12 = .ok (.iconst 0, 1) := by decide +kernel
theorem dX0_isWhole_13 : decode cX0_isWhole 13 = .ok (.ireturn, 1) := by decide +kernel
theorem dX0_groundIn_0 : decode cX0_groundIn 0 = .ok (.aload_n 0, 1) := by decide +kernel
theorem dX0_groundIn_1 : decode cX0_groundIn 1 = .ok (.getfield 30, 3) := by decide +kernel
theorem dX0_groundIn_4 : decode cX0_groundIn 4 = .ok (.iload_n 1, 1) := by decide +kernel
theorem dX0_groundIn_5 : decode cX0_groundIn 5 = .ok (.invokestatic 46, 3) := by decide +kernel
theorem dX0_groundIn_8 : decode cX0_groundIn 8 = .ok (.istore_n 2, 1) := by decide +kernel
theorem dX0_groundIn_9 : decode cX0_groundIn 9 = .ok (.iload_n 2, 1) := by decide +kernel
theorem dX0_groundIn_10 : decode cX0_groundIn 10 = .ok (.ifCond .le 9, 3) := by decide +kernel
theorem dX0_groundIn_13 : decode cX0_groundIn 13 = .ok (.iload_n 2, 1) := by decide +kernel
theorem dX0_groundIn_14 : decode cX0_groundIn 14 = .ok (.iconst 1, 1) := by decide +kernel
theorem dX0_groundIn_15 : decode cX0_groundIn 15 = .ok (.isub, 1) := by decide +kernel
theorem dX0_groundIn_16 : decode cX0_groundIn 16 = .ok (.goto 5, 3) := by decide +kernel
theorem dX0_groundIn_19 : decode cX0_groundIn 19 = .ok (.bipush (-9), 2) := by decide +kernel
theorem dX0_groundIn_21 : decode cX0_groundIn 21 = .ok (.ireturn, 1) := by decide +kernel
theorem dX0_wayOn_0 : decode cX0_wayOn 0 = .ok (.aload_n 0, 1) := by decide +kernel
theorem dX0_wayOn_1 : decode cX0_wayOn 1 = .ok (.getfield 37, 3) := by decide +kernel
theorem dX0_wayOn_4 : decode cX0_wayOn 4 = .ok (.ifCond .le 19, 3) := by decide +kernel
theorem dX0_wayOn_7 : decode cX0_wayOn 7 = .ok (.aload_n 0, 1) := by decide +kernel
theorem dX0_wayOn_8 : decode cX0_wayOn 8 = .ok (.getfield 9, 3) := by decide +kernel
theorem dX0_wayOn_11 : decode cX0_wayOn 11 = .ok (.iload_n 1, 1) := by decide +kernel
theorem dX0_wayOn_12 : decode cX0_wayOn 12 = .ok (.aload_n 0, 1) := by decide +kernel
theorem dX0_wayOn_13 : decode cX0_wayOn 13 = .ok (.getfield 37, 3) := by decide +kernel
theorem dX0_wayOn_16 : decode cX0_wayOn 16 = .ok (.irem, 1) := by decide +kernel
theorem dX0_wayOn_17 : decode cX0_wayOn 17 = .ok (.invokestatic 46, 3) := by decide +kernel
theorem dX0_wayOn_20 : decode cX0_wayOn 20 = .ok (.goto 4, 3) := by decide +kernel
theorem dX0_wayOn_23 : decode cX0_wayOn 23 = .ok (.iconst 4, 1) := by decide +kernel
theorem dX0_wayOn_24 : decode cX0_wayOn 24 = .ok (.ireturn, 1) := by decide +kernel
theorem dX0_takes_0 : decode cX0_takes 0 = .ok (.iload_n 1, 1) := by decide +kernel
theorem dX0_takes_1 : decode cX0_takes 1 = .ok (.bipush 48, 2) := by decide +kernel
theorem dX0_takes_3 : decode cX0_takes 3 = .ok (.isub, 1) := by decide +kernel
theorem dX0_takes_4 : decode cX0_takes 4 = .ok (.istore_n 2, 1) := by decide +kernel
theorem dX0_takes_5 : decode cX0_takes 5 = .ok (.iload_n 1, 1) := by decide +kernel
theorem dX0_takes_6 : decode cX0_takes 6 = .ok (.bipush 97, 2) := by decide +kernel
theorem dX0_takes_8 : decode cX0_takes 8 = .ok (.isub, 1) := by decide +kernel
theorem dX0_takes_9 : decode cX0_takes 9 = .ok (.istore_n 3, 1) := by decide +kernel
theorem dX0_takes_10 : decode cX0_takes 10 = .ok (.aload_n 0, 1) := by decide +kernel
theorem dX0_takes_11 : decode cX0_takes 11 = .ok (.getfield 33, 3) := by decide +kernel
theorem dX0_takes_14 : decode cX0_takes 14 = .ok (.tableswitch 268 0 7 #[46, 66, 72, 102, 144, 175, 205, 238], 46) := by decide +kernel
theorem dX0_takes_60 : decode cX0_takes 60 = .ok (.iload_n 1, 1) := by decide +kernel
theorem dX0_takes_61 : decode cX0_takes 61 = .ok (.bipush 83, 2) := by decide +kernel
theorem dX0_takes_63 : decode cX0_takes 63 = .ok (.if_icmp .ne 15, 3) := by decide +kernel
theorem dX0_takes_66 : decode cX0_takes 66 = .ok (.aload_n 0, 1) := by decide +kernel
theorem dX0_takes_67 : decode cX0_takes 67 = .ok (.iconst 1, 1) := by decide +kernel
theorem dX0_takes_68 : decode cX0_takes 68 = .ok (.invokevirtual 50, 3) := by decide +kernel
theorem dX0_takes_71 : decode cX0_takes 71 = .ok (.ifCond .eq 7, 3) := by decide +kernel
theorem dX0_takes_74 : decode cX0_takes 74 = .ok (.iconst 1, 1) := by decide +kernel
theorem dX0_takes_75 : decode cX0_takes 75 = .ok (.goto 4, 3) := by decide +kernel
theorem dX0_takes_78 : decode cX0_takes 78 = .ok (.iconst 0, 1) := by decide +kernel
theorem dX0_takes_79 : decode cX0_takes 79 = .ok (.ireturn, 1) := by decide +kernel
theorem dX0_takes_80 : decode cX0_takes 80 = .ok (.aload_n 0, 1) := by decide +kernel
theorem dX0_takes_81 : decode cX0_takes 81 = .ok (.iload_n 1, 1) := by decide +kernel
theorem dX0_takes_82 : decode cX0_takes 82 = .ok (.invokevirtual 54, 3) := by decide +kernel
theorem dX0_takes_85 : decode cX0_takes 85 = .ok (.ireturn, 1) := by decide +kernel
theorem dX0_takes_86 : decode cX0_takes 86 = .ok (.aload_n 0, 1) := by decide +kernel
theorem dX0_takes_87 : decode cX0_takes 87 = .ok (.aload_n 0, 1) := by decide +kernel
theorem dX0_takes_88 : decode cX0_takes 88 = .ok (.getfield 9, 3) := by decide +kernel
theorem dX0_takes_91 : decode cX0_takes 91 = .ok (.aload_n 0, 1) := by decide +kernel
theorem dX0_takes_92 : decode cX0_takes 92 = .ok (.getfield 37, 3) := by decide +kernel
theorem dX0_takes_95 : decode cX0_takes 95 = .ok (.iload_n 2, 1) := by decide +kernel
theorem dX0_takes_96 : decode cX0_takes 96 = .ok (.iconst 4, 1) := by decide +kernel
theorem dX0_takes_97 : decode cX0_takes 97 = .ok (.invokevirtual 57, 3) := by decide +kernel
theorem dX0_takes_100 : decode cX0_takes 100 = .ok (.ifCond .eq 14, 3) := by decide +kernel
theorem dX0_takes_103 : decode cX0_takes 103 = .ok (.aload_n 0, 1) := by decide +kernel
theorem dX0_takes_104 : decode cX0_takes 104 = .ok (.invokevirtual 61, 3) := by decide +kernel
theorem dX0_takes_107 : decode cX0_takes 107 = .ok (.ifCond .eq 7, 3) := by decide +kernel
theorem dX0_takes_110 : decode cX0_takes 110 = .ok (.iconst 1, 1) := by decide +kernel
theorem dX0_takes_111 : decode cX0_takes 111 = .ok (.goto 4, 3) := by decide +kernel
theorem dX0_takes_114 : decode cX0_takes 114 = .ok (.iconst 0, 1) := by decide +kernel
theorem dX0_takes_115 : decode cX0_takes 115 = .ok (.ireturn, 1) := by decide +kernel
theorem dX0_takes_116 : decode cX0_takes 116 = .ok (.aload_n 0, 1) := by decide +kernel
theorem dX0_takes_117 : decode cX0_takes 117 = .ok (.iload_n 3, 1) := by decide +kernel
theorem dX0_takes_118 : decode cX0_takes 118 = .ok (.invokevirtual 65, 3) := by decide +kernel
theorem dX0_takes_121 : decode cX0_takes 121 = .ok (.bipush (-9), 2) := by decide +kernel
theorem dX0_takes_123 : decode cX0_takes 123 = .ok (.if_icmp .ne 33, 3) := by decide +kernel
theorem dX0_takes_126 : decode cX0_takes 126 = .ok (.aload_n 0, 1) := by decide +kernel
theorem dX0_takes_127 : decode cX0_takes 127 = .ok (.aload_n 0, 1) := by decide +kernel
theorem dX0_takes_128 : decode cX0_takes 128 = .ok (.getfield 15, 3) := by decide +kernel
theorem dX0_takes_131 : decode cX0_takes 131 = .ok (.aload_n 0, 1) := by decide +kernel
theorem dX0_takes_132 : decode cX0_takes 132 = .ok (.getfield 40, 3) := by decide +kernel
theorem dX0_takes_135 : decode cX0_takes 135 = .ok (.iload_n 3, 1) := by decide +kernel
theorem dX0_takes_136 : decode cX0_takes 136 = .ok (.bipush 11, 2) := by decide +kernel
theorem dX0_takes_138 : decode cX0_takes 138 = .ok (.invokevirtual 57, 3) := by decide +kernel
theorem dX0_takes_141 : decode cX0_takes 141 = .ok (.ifCond .eq 15, 3) := by decide +kernel
theorem dX0_takes_144 : decode cX0_takes 144 = .ok (.aload_n 0, 1) := by decide +kernel
theorem dX0_takes_145 : decode cX0_takes 145 = .ok (.iconst 4, 1) := by decide +kernel
theorem dX0_takes_146 : decode cX0_takes 146 = .ok (.invokevirtual 50, 3) := by decide +kernel
theorem dX0_takes_149 : decode cX0_takes 149 = .ok (.ifCond .eq 7, 3) := by decide +kernel
theorem dX0_takes_152 : decode cX0_takes 152 = .ok (.iconst 1, 1) := by decide +kernel
theorem dX0_takes_153 : decode cX0_takes 153 = .ok (.goto 4, 3) := by decide +kernel
theorem dX0_takes_156 : decode cX0_takes 156 = .ok (.iconst 0, 1) := by decide +kernel
theorem dX0_takes_157 : decode cX0_takes 157 = .ok (.ireturn, 1) := by decide +kernel
theorem dX0_takes_158 : decode cX0_takes 158 = .ok (.aload_n 0, 1) := by decide +kernel
theorem dX0_takes_159 : decode cX0_takes 159 = .ok (.aload_n 0, 1) := by decide +kernel
theorem dX0_takes_160 : decode cX0_takes 160 = .ok (.getfield 18, 3) := by decide +kernel
theorem dX0_takes_163 : decode cX0_takes 163 = .ok (.aload_n 0, 1) := by decide +kernel
theorem dX0_takes_164 : decode cX0_takes 164 = .ok (.getfield 40, 3) := by decide +kernel
theorem dX0_takes_167 : decode cX0_takes 167 = .ok (.iload_n 2, 1) := by decide +kernel
theorem dX0_takes_168 : decode cX0_takes 168 = .ok (.iconst 4, 1) := by decide +kernel
theorem dX0_takes_169 : decode cX0_takes 169 = .ok (.invokevirtual 57, 3) := by decide +kernel
theorem dX0_takes_172 : decode cX0_takes 172 = .ok (.ifCond .eq 15, 3) := by decide +kernel
theorem dX0_takes_175 : decode cX0_takes 175 = .ok (.aload_n 0, 1) := by decide +kernel
theorem dX0_takes_176 : decode cX0_takes 176 = .ok (.iconst 5, 1) := by decide +kernel
theorem dX0_takes_177 : decode cX0_takes 177 = .ok (.invokevirtual 50, 3) := by decide +kernel
theorem dX0_takes_180 : decode cX0_takes 180 = .ok (.ifCond .eq 7, 3) := by decide +kernel
theorem dX0_takes_183 : decode cX0_takes 183 = .ok (.iconst 1, 1) := by decide +kernel
theorem dX0_takes_184 : decode cX0_takes 184 = .ok (.goto 4, 3) := by decide +kernel
theorem dX0_takes_187 : decode cX0_takes 187 = .ok (.iconst 0, 1) := by decide +kernel
theorem dX0_takes_188 : decode cX0_takes 188 = .ok (.ireturn, 1) := by decide +kernel
theorem dX0_takes_189 : decode cX0_takes 189 = .ok (.aload_n 0, 1) := by decide +kernel
theorem dX0_takes_190 : decode cX0_takes 190 = .ok (.aload_n 0, 1) := by decide +kernel
theorem dX0_takes_191 : decode cX0_takes 191 = .ok (.getfield 21, 3) := by decide +kernel
theorem dX0_takes_194 : decode cX0_takes 194 = .ok (.aload_n 0, 1) := by decide +kernel
theorem dX0_takes_195 : decode cX0_takes 195 = .ok (.getfield 40, 3) := by decide +kernel
theorem dX0_takes_198 : decode cX0_takes 198 = .ok (.iload_n 2, 1) := by decide +kernel
theorem dX0_takes_199 : decode cX0_takes 199 = .ok (.iconst 3, 1) := by decide +kernel
theorem dX0_takes_200 : decode cX0_takes 200 = .ok (.invokevirtual 57, 3) := by decide +kernel
theorem dX0_takes_203 : decode cX0_takes 203 = .ok (.ifCond .eq 14, 3) := by decide +kernel
theorem dX0_takes_206 : decode cX0_takes 206 = .ok (.aload_n 0, 1) := by decide +kernel
theorem dX0_takes_207 : decode cX0_takes 207 = .ok (.invokevirtual 69, 3) := by decide +kernel
theorem dX0_takes_210 : decode cX0_takes 210 = .ok (.ifCond .eq 7, 3) := by decide +kernel
theorem dX0_takes_213 : decode cX0_takes 213 = .ok (.iconst 1, 1) := by decide +kernel
theorem dX0_takes_214 : decode cX0_takes 214 = .ok (.goto 4, 3) := by decide +kernel
theorem dX0_takes_217 : decode cX0_takes 217 = .ok (.iconst 0, 1) := by decide +kernel
theorem dX0_takes_218 : decode cX0_takes 218 = .ok (.ireturn, 1) := by decide +kernel
theorem dX0_takes_219 : decode cX0_takes 219 = .ok (.aload_n 0, 1) := by decide +kernel
theorem dX0_takes_220 : decode cX0_takes 220 = .ok (.aload_n 0, 1) := by decide +kernel
theorem dX0_takes_221 : decode cX0_takes 221 = .ok (.getfield 24, 3) := by decide +kernel
theorem dX0_takes_224 : decode cX0_takes 224 = .ok (.aload_n 0, 1) := by decide +kernel
theorem dX0_takes_225 : decode cX0_takes 225 = .ok (.getfield 43, 3) := by decide +kernel
theorem dX0_takes_228 : decode cX0_takes 228 = .ok (.iload_n 3, 1) := by decide +kernel
theorem dX0_takes_229 : decode cX0_takes 229 = .ok (.bipush 11, 2) := by decide +kernel
theorem dX0_takes_231 : decode cX0_takes 231 = .ok (.invokevirtual 57, 3) := by decide +kernel
theorem dX0_takes_234 : decode cX0_takes 234 = .ok (.ifCond .eq 16, 3) := by decide +kernel
theorem dX0_takes_237 : decode cX0_takes 237 = .ok (.aload_n 0, 1) := by decide +kernel
theorem dX0_takes_238 : decode cX0_takes 238 = .ok (.bipush 7, 2) := by decide +kernel
theorem dX0_takes_240 : decode cX0_takes 240 = .ok (.invokevirtual 50, 3) := by decide +kernel
theorem dX0_takes_243 : decode cX0_takes 243 = .ok (.ifCond .eq 7, 3) := by decide +kernel
theorem dX0_takes_246 : decode cX0_takes 246 = .ok (.iconst 1, 1) := by decide +kernel
theorem dX0_takes_247 : decode cX0_takes 247 = .ok (.goto 4, 3) := by decide +kernel
theorem dX0_takes_250 : decode cX0_takes 250 = .ok (.iconst 0, 1) := by decide +kernel
theorem dX0_takes_251 : decode cX0_takes 251 = .ok (.ireturn, 1) := by decide +kernel
theorem dX0_takes_252 : decode cX0_takes 252 = .ok (.aload_n 0, 1) := by decide +kernel
theorem dX0_takes_253 : decode cX0_takes 253 = .ok (.aload_n 0, 1) := by decide +kernel
theorem dX0_takes_254 : decode cX0_takes 254 = .ok (.getfield 27, 3) := by decide +kernel
theorem dX0_takes_257 : decode cX0_takes 257 = .ok (.aload_n 0, 1) := by decide +kernel
theorem dX0_takes_258 : decode cX0_takes 258 = .ok (.getfield 43, 3) := by decide +kernel
theorem dX0_takes_261 : decode cX0_takes 261 = .ok (.iload_n 2, 1) := by decide +kernel
theorem dX0_takes_262 : decode cX0_takes 262 = .ok (.iconst 3, 1) := by decide +kernel
theorem dX0_takes_263 : decode cX0_takes 263 = .ok (.invokevirtual 57, 3) := by decide +kernel
theorem dX0_takes_266 : decode cX0_takes 266 = .ok (.ifCond .eq 14, 3) := by decide +kernel
theorem dX0_takes_269 : decode cX0_takes 269 = .ok (.aload_n 0, 1) := by decide +kernel
theorem dX0_takes_270 : decode cX0_takes 270 = .ok (.invokevirtual 72, 3) := by decide +kernel
theorem dX0_takes_273 : decode cX0_takes 273 = .ok (.ifCond .eq 7, 3) := by decide +kernel
theorem dX0_takes_276 : decode cX0_takes 276 = .ok (.iconst 1, 1) := by decide +kernel
theorem dX0_takes_277 : decode cX0_takes 277 = .ok (.goto 4, 3) := by decide +kernel
theorem dX0_takes_280 : decode cX0_takes 280 = .ok (.iconst 0, 1) := by decide +kernel
theorem dX0_takes_281 : decode cX0_takes 281 = .ok (.ireturn, 1) := by decide +kernel
theorem dX0_takes_282 : decode cX0_takes 282 = .ok (.iconst 0, 1) := by decide +kernel
theorem dX0_takes_283 : decode cX0_takes 283 = .ok (.ireturn, 1) := by decide +kernel
theorem dX0_takesPart_0 : decode cX0_takesPart 0 = .ok (.iload_n 1, 1) := by decide +kernel
theorem dX0_takesPart_1 : decode cX0_takesPart 1 = .ok (.lookupswitch 103 #[(67, 80), (71, 57), (84, 35)], 35) := by decide +kernel
theorem dX0_takesPart_36 : decode cX0_takesPart 36 = .ok (.aload_n 0, 1) := by decide +kernel
theorem dX0_takesPart_37 : decode cX0_takesPart 37 = .ok (.getfield 37, 3) := by decide +kernel
theorem dX0_takesPart_40 : decode cX0_takesPart 40 = .ok (.iconst 4, 1) := by decide +kernel
theorem dX0_takesPart_41 : decode cX0_takesPart 41 = .ok (.if_icmp .ge 15, 3) := by decide +kernel
theorem dX0_takesPart_44 : decode cX0_takesPart 44 = .ok (.aload_n 0, 1) := by decide +kernel
theorem dX0_takesPart_45 : decode cX0_takesPart 45 = .ok (.iconst 2, 1) := by decide +kernel
theorem dX0_takesPart_46 : decode cX0_takesPart 46 = .ok (.invokevirtual 50, 3) := by decide +kernel
theorem dX0_takesPart_49 : decode cX0_takesPart 49 = .ok (.ifCond .eq 7, 3) := by decide +kernel
theorem dX0_takesPart_52 : decode cX0_takesPart 52 = .ok (.iconst 1, 1) := by decide +kernel
theorem dX0_takesPart_53 : decode cX0_takesPart 53 = .ok (.goto 4, 3) := by decide +kernel
theorem dX0_takesPart_56 : decode cX0_takesPart 56 = .ok (.iconst 0, 1) := by decide +kernel
theorem dX0_takesPart_57 : decode cX0_takesPart 57 = .ok (.ireturn, 1) := by decide +kernel
theorem dX0_takesPart_58 : decode cX0_takesPart 58 = .ok (.aload_n 0, 1) := by decide +kernel
theorem dX0_takesPart_59 : decode cX0_takesPart 59 = .ok (.getfield 40, 3) := by decide +kernel
theorem dX0_takesPart_62 : decode cX0_takesPart 62 = .ok (.bipush 6, 2) := by decide +kernel
theorem dX0_takesPart_64 : decode cX0_takesPart 64 = .ok (.if_icmp .ge 15, 3) := by decide +kernel
theorem dX0_takesPart_67 : decode cX0_takesPart 67 = .ok (.aload_n 0, 1) := by decide +kernel
theorem dX0_takesPart_68 : decode cX0_takesPart 68 = .ok (.iconst 3, 1) := by decide +kernel
theorem dX0_takesPart_69 : decode cX0_takesPart 69 = .ok (.invokevirtual 50, 3) := by decide +kernel
theorem dX0_takesPart_72 : decode cX0_takesPart 72 = .ok (.ifCond .eq 7, 3) := by decide +kernel
theorem dX0_takesPart_75 : decode cX0_takesPart 75 = .ok (.iconst 1, 1) := by decide +kernel
theorem dX0_takesPart_76 : decode cX0_takesPart 76 = .ok (.goto 4, 3) := by decide +kernel
theorem dX0_takesPart_79 : decode cX0_takesPart 79 = .ok (.iconst 0, 1) := by decide +kernel
theorem dX0_takesPart_80 : decode cX0_takesPart 80 = .ok (.ireturn, 1) := by decide +kernel
theorem dX0_takesPart_81 : decode cX0_takesPart 81 = .ok (.aload_n 0, 1) := by decide +kernel
theorem dX0_takesPart_82 : decode cX0_takesPart 82 = .ok (.getfield 43, 3) := by decide +kernel
theorem dX0_takesPart_85 : decode cX0_takesPart 85 = .ok (.iconst 5, 1) := by decide +kernel
theorem dX0_takesPart_86 : decode cX0_takesPart 86 = .ok (.if_icmp .ge 16, 3) := by decide +kernel
theorem dX0_takesPart_89 : decode cX0_takesPart 89 = .ok (.aload_n 0, 1) := by decide +kernel
theorem dX0_takesPart_90 : decode cX0_takesPart 90 = .ok (.bipush 6, 2) := by decide +kernel
theorem dX0_takesPart_92 : decode cX0_takesPart 92 = .ok (.invokevirtual 50, 3) := by decide +kernel
theorem dX0_takesPart_95 : decode cX0_takesPart 95 = .ok (.ifCond .eq 7, 3) := by decide +kernel
theorem dX0_takesPart_98 : decode cX0_takesPart 98 = .ok (.iconst 1, 1) := by decide +kernel
theorem dX0_takesPart_99 : decode cX0_takesPart 99 = .ok (.goto 4, 3) := by decide +kernel
theorem dX0_takesPart_102 : decode cX0_takesPart 102 = .ok (.iconst 0, 1) := by decide +kernel
theorem dX0_takesPart_103 : decode cX0_takesPart 103 = .ok (.ireturn, 1) := by decide +kernel
theorem dX0_takesPart_104 : decode cX0_takesPart 104 = .ok (.iconst 0, 1) := by decide +kernel
theorem dX0_takesPart_105 : decode cX0_takesPart 105 = .ok (.ireturn, 1) := by decide +kernel
theorem dX0_takesFigure_0 : decode cX0_takesFigure 0 = .ok (.iload_n 3, 1) := by decide +kernel
theorem dX0_takesFigure_1 : decode cX0_takesFigure 1 = .ok (.ifCond .lt 9, 3) := by decide +kernel
theorem dX0_takesFigure_4 : decode cX0_takesFigure 4 = .ok (.iload_n 3, 1) := by decide +kernel
theorem dX0_takesFigure_5 : decode cX0_takesFigure 5 = .ok (.iload 4, 2) := by decide +kernel
theorem dX0_takesFigure_7 : decode cX0_takesFigure 7 = .ok (.if_icmp .le 5, 3) := by decide +kernel
theorem dX0_takesFigure_10 : decode cX0_takesFigure 10 = .ok (.iconst 0, 1) := by decide +kernel
theorem dX0_takesFigure_11 : decode cX0_takesFigure 11 = .ok (.ireturn, 1) := by decide +kernel
theorem dX0_takesFigure_12 : decode cX0_takesFigure 12 = .ok (.aload_n 1, 1) := by decide +kernel
theorem dX0_takesFigure_13 : decode cX0_takesFigure 13 = .ok (.iload_n 2, 1) := by decide +kernel
theorem dX0_takesFigure_14 : decode cX0_takesFigure 14 = .ok (.iload_n 3, 1) := by decide +kernel
theorem dX0_takesFigure_15 : decode cX0_takesFigure 15 = .ok (.invokestatic 75, 3) := by decide +kernel
theorem dX0_takesFigure_18 : decode cX0_takesFigure 18 = .ok (.iconst 1, 1) := by decide +kernel
theorem dX0_takesFigure_19 : decode cX0_takesFigure 19 = .ok (.ireturn, 1) := by decide +kernel
theorem dX0_endsTide_0 : decode cX0_endsTide 0 = .ok (.aload_n 0, 1) := by decide +kernel
theorem dX0_endsTide_1 : decode cX0_endsTide 1 = .ok (.dup, 1) := by decide +kernel
theorem dX0_endsTide_2 : decode cX0_endsTide 2 = .ok (.getfield 37, 3) := by decide +kernel
theorem dX0_endsTide_5 : decode cX0_endsTide 5 = .ok (.iconst 1, 1) := by decide +kernel
theorem dX0_endsTide_6 : decode cX0_endsTide 6 = .ok (.iadd, 1) := by decide +kernel
theorem dX0_endsTide_7 : decode cX0_endsTide 7 = .ok (.putfield 37, 3) := by decide +kernel
theorem dX0_endsTide_10 : decode cX0_endsTide 10 = .ok (.aload_n 0, 1) := by decide +kernel
theorem dX0_endsTide_11 : decode cX0_endsTide 11 = .ok (.iconst 1, 1) := by decide +kernel
theorem dX0_endsTide_12 : decode cX0_endsTide 12 = .ok (.invokevirtual 50, 3) := by decide +kernel
theorem dX0_endsTide_15 : decode cX0_endsTide 15 = .ok (.ireturn, 1) := by decide +kernel
theorem dX0_endsGround_0 : decode cX0_endsGround 0 = .ok (.aload_n 0, 1) := by decide +kernel
theorem dX0_endsGround_1 : decode cX0_endsGround 1 = .ok (.dup, 1) := by decide +kernel
theorem dX0_endsGround_2 : decode cX0_endsGround 2 = .ok (.getfield 40, 3) := by decide +kernel
theorem dX0_endsGround_5 : decode cX0_endsGround 5 = .ok (.iconst 1, 1) := by decide +kernel
theorem dX0_endsGround_6 : decode cX0_endsGround 6 = .ok (.iadd, 1) := by decide +kernel
theorem dX0_endsGround_7 : decode cX0_endsGround 7 = .ok (.putfield 40, 3) := by decide +kernel
theorem dX0_endsGround_10 : decode cX0_endsGround 10 = .ok (.aload_n 0, 1) := by decide +kernel
theorem dX0_endsGround_11 : decode cX0_endsGround 11 = .ok (.getfield 30, 3) := by decide +kernel
theorem dX0_endsGround_14 : decode cX0_endsGround 14 = .ok (.aload_n 0, 1) := by decide +kernel
theorem dX0_endsGround_15 : decode cX0_endsGround 15 = .ok (.getfield 15, 3) := by decide +kernel
theorem dX0_endsGround_18 : decode cX0_endsGround 18 = .ok (.aload_n 0, 1) := by decide +kernel
theorem dX0_endsGround_19 : decode cX0_endsGround 19 = .ok (.getfield 40, 3) := by decide +kernel
theorem dX0_endsGround_22 : decode cX0_endsGround 22 = .ok (.iconst 1, 1) := by decide +kernel
theorem dX0_endsGround_23 : decode cX0_endsGround 23 = .ok (.isub, 1) := by decide +kernel
theorem dX0_endsGround_24 : decode cX0_endsGround 24 = .ok (.invokestatic 46, 3) := by decide +kernel
theorem dX0_endsGround_27 : decode cX0_endsGround 27 = .ok (.aload_n 0, 1) := by decide +kernel
theorem dX0_endsGround_28 : decode cX0_endsGround 28 = .ok (.getfield 40, 3) := by decide +kernel
theorem dX0_endsGround_31 : decode cX0_endsGround 31 = .ok (.invokestatic 75, 3) := by decide +kernel
theorem dX0_endsGround_34 : decode cX0_endsGround 34 = .ok (.aload_n 0, 1) := by decide +kernel
theorem dX0_endsGround_35 : decode cX0_endsGround 35 = .ok (.iconst 1, 1) := by decide +kernel
theorem dX0_endsGround_36 : decode cX0_endsGround 36 = .ok (.invokevirtual 50, 3) := by decide +kernel
theorem dX0_endsGround_39 : decode cX0_endsGround 39 = .ok (.ireturn, 1) := by decide +kernel
theorem dX0_endsChild_0 : decode cX0_endsChild 0 = .ok (.aload_n 0, 1) := by decide +kernel
theorem dX0_endsChild_1 : decode cX0_endsChild 1 = .ok (.dup, 1) := by decide +kernel
theorem dX0_endsChild_2 : decode cX0_endsChild 2 = .ok (.getfield 43, 3) := by decide +kernel
theorem dX0_endsChild_5 : decode cX0_endsChild 5 = .ok (.iconst 1, 1) := by decide +kernel
theorem dX0_endsChild_6 : decode cX0_endsChild 6 = .ok (.iadd, 1) := by decide +kernel
theorem dX0_endsChild_7 : decode cX0_endsChild 7 = .ok (.putfield 43, 3) := by decide +kernel
theorem dX0_endsChild_10 : decode cX0_endsChild 10 = .ok (.aload_n 0, 1) := by decide +kernel
theorem dX0_endsChild_11 : decode cX0_endsChild 11 = .ok (.iconst 1, 1) := by decide +kernel
theorem dX0_endsChild_12 : decode cX0_endsChild 12 = .ok (.invokevirtual 50, 3) := by decide +kernel
theorem dX0_endsChild_15 : decode cX0_endsChild 15 = .ok (.ireturn, 1) := by decide +kernel
theorem dX0_goesOn_0 : decode cX0_goesOn 0 = .ok (.aload_n 0, 1) := by decide +kernel
theorem dX0_goesOn_1 : decode cX0_goesOn 1 = .ok (.iload_n 1, 1) := by decide +kernel
theorem dX0_goesOn_2 : decode cX0_goesOn 2 = .ok (.putfield 33, 3) := by decide +kernel
theorem dX0_goesOn_5 : decode cX0_goesOn 5 = .ok (.iconst 1, 1) := by decide +kernel
theorem dX0_goesOn_6 : decode cX0_goesOn 6 = .ok (.ireturn, 1) := by decide +kernel
theorem dX1_init_0 : decode cX1_init 0 = .ok (.aload_n 0, 1) := by decide +kernel
theorem dX1_init_1 : decode cX1_init 1 = .ok (.invokespecial 3, 3) := by decide +kernel
theorem dX1_init_4 : decode cX1_init 4 = .ok (.aload_n 0, 1) := by decide +kernel
theorem dX1_init_5 : decode cX1_init 5 = .ok (.bipush 6, 2) := by decide +kernel
theorem dX1_init_7 : decode cX1_init 7 = .ok (.newarray .int, 2) := by decide +kernel
theorem dX1_init_9 : decode cX1_init 9 = .ok (.putfield 9, 3) := by decide +kernel
theorem dX1_init_12 : decode cX1_init 12 = .ok (.aload_n 0, 1) := by decide +kernel
theorem dX1_init_13 : decode cX1_init 13 = .ok (.bipush 6, 2) := by decide +kernel
theorem dX1_init_15 : decode cX1_init 15 = .ok (.newarray .int, 2) := by decide +kernel
theorem dX1_init_17 : decode cX1_init 17 = .ok (.putfield 15, 3) := by decide +kernel
theorem dX1_init_20 : decode cX1_init 20 = .ok (.aload_n 0, 1) := by decide +kernel
theorem dX1_init_21 : decode cX1_init 21 = .ok (.bipush 6, 2) := by decide +kernel
theorem dX1_init_23 : decode cX1_init 23 = .ok (.newarray .int, 2) := by decide +kernel
theorem dX1_init_25 : decode cX1_init 25 = .ok (.putfield 18, 3) := by decide +kernel
theorem dX1_init_28 : decode cX1_init 28 = .ok (.return_, 1) := by decide +kernel
theorem dX1_add_0 : decode cX1_add 0 = .ok (.aload_n 0, 1) := by decide +kernel
theorem dX1_add_1 : decode cX1_add 1 = .ok (.getfield 9, 3) := by decide +kernel
theorem dX1_add_4 : decode cX1_add 4 = .ok (.aload_n 0, 1) := by decide +kernel
theorem dX1_add_5 : decode cX1_add 5 = .ok (.getfield 21, 3) := by decide +kernel
theorem dX1_add_8 : decode cX1_add 8 = .ok (.iload_n 1, 1) := by decide +kernel
theorem dX1_add_9 : decode cX1_add 9 = .ok (.invokestatic 25, 3) := by decide +kernel
theorem dX1_add_12 : decode cX1_add 12 = .ok (.aload_n 0, 1) := by decide +kernel
theorem dX1_add_13 : decode cX1_add 13 = .ok (.getfield 15, 3) := by decide +kernel
theorem dX1_add_16 : decode cX1_add 16 = .ok (.aload_n 0, 1) := by decide +kernel
theorem dX1_add_17 : decode cX1_add 17 = .ok (.getfield 21, 3) := by decide +kernel
theorem dX1_add_20 : decode cX1_add 20 = .ok (.iload_n 2, 1) := by decide +kernel
theorem dX1_add_21 : decode cX1_add 21 = .ok (.invokestatic 25, 3) := by decide +kernel
theorem dX1_add_24 : decode cX1_add 24 = .ok (.aload_n 0, 1) := by decide +kernel
theorem dX1_add_25 : decode cX1_add 25 = .ok (.getfield 18, 3) := by decide +kernel
theorem dX1_add_28 : decode cX1_add 28 = .ok (.aload_n 0, 1) := by decide +kernel
theorem dX1_add_29 : decode cX1_add 29 = .ok (.getfield 21, 3) := by decide +kernel
theorem dX1_add_32 : decode cX1_add 32 = .ok (.iload_n 3, 1) := by decide +kernel
theorem dX1_add_33 : decode cX1_add 33 = .ok (.invokestatic 25, 3) := by decide +kernel
theorem dX1_add_36 : decode cX1_add 36 = .ok (.aload_n 0, 1) := by decide +kernel
theorem dX1_add_37 : decode cX1_add 37 = .ok (.dup, 1) := by decide +kernel
theorem dX1_add_38 : decode cX1_add 38 = .ok (.getfield 21, 3) := by decide +kernel
theorem dX1_add_41 : decode cX1_add 41 = .ok (.iconst 1, 1) := by decide +kernel
theorem dX1_add_42 : decode cX1_add 42 = .ok (.iadd, 1) := by decide +kernel
theorem dX1_add_43 : decode cX1_add 43 = .ok (.putfield 21, 3) := by decide +kernel
theorem dX1_add_46 : decode cX1_add 46 = .ok (.return_, 1) := by decide +kernel
theorem dX1_areSo_0 : decode cX1_areSo 0 = .ok (.iconst 0, 1) := by decide +kernel
theorem dX1_areSo_1 : decode cX1_areSo 1 = .ok (.istore_n 3, 1) := by decide +kernel
theorem dX1_areSo_2 : decode cX1_areSo 2 = .ok (.iload_n 3, 1) := by decide +kernel
theorem dX1_areSo_3 : decode cX1_areSo 3 = .ok (.aload_n 0, 1) := by decide +kernel
theorem dX1_areSo_4 : decode cX1_areSo 4 = .ok (.getfield 21, 3) := by decide +kernel
theorem dX1_areSo_7 : decode cX1_areSo 7 = .ok (.if_icmp .ge 47, 3) := by decide +kernel
theorem dX1_areSo_10 : decode cX1_areSo 10 = .ok (.aload_n 0, 1) := by decide +kernel
theorem dX1_areSo_11 : decode cX1_areSo 11 = .ok (.getfield 15, 3) := by decide +kernel
theorem dX1_areSo_14 : decode cX1_areSo 14 = .ok (.iload_n 3, 1) := by decide +kernel
theorem dX1_areSo_15 : decode cX1_areSo 15 = .ok (.invokestatic 29, 3) := by decide +kernel
theorem dX1_areSo_18 : decode cX1_areSo 18 = .ok (.iload_n 1, 1) := by decide +kernel
theorem dX1_areSo_19 : decode cX1_areSo 19 = .ok (.if_icmp .ne 29, 3) := by decide +kernel
theorem dX1_areSo_22 : decode cX1_areSo 22 = .ok (.aload_n 2, 1) := by decide +kernel
theorem dX1_areSo_23 : decode cX1_areSo 23 = .ok (.iconst 0, 1) := by decide +kernel
theorem dX1_areSo_24 : decode cX1_areSo 24 = .ok (.aload_n 0, 1) := by decide +kernel
theorem dX1_areSo_25 : decode cX1_areSo 25 = .ok (.getfield 9, 3) := by decide +kernel
theorem dX1_areSo_28 : decode cX1_areSo 28 = .ok (.iload_n 3, 1) := by decide +kernel
theorem dX1_areSo_29 : decode cX1_areSo 29 = .ok (.invokestatic 29, 3) := by decide +kernel
theorem dX1_areSo_32 : decode cX1_areSo 32 = .ok (.invokevirtual 33, 3) := by decide +kernel
theorem dX1_areSo_35 : decode cX1_areSo 35 = .ok (.aload_n 0, 1) := by decide +kernel
theorem dX1_areSo_36 : decode cX1_areSo 36 = .ok (.getfield 18, 3) := by decide +kernel
theorem dX1_areSo_39 : decode cX1_areSo 39 = .ok (.iload_n 3, 1) := by decide +kernel
theorem dX1_areSo_40 : decode cX1_areSo 40 = .ok (.invokestatic 29, 3) := by decide +kernel
theorem dX1_areSo_43 : decode cX1_areSo 43 = .ok (.if_icmp .eq 5, 3) := by decide +kernel
theorem dX1_areSo_46 : decode cX1_areSo 46 = .ok (.iconst 0, 1) := by decide +kernel
theorem dX1_areSo_47 : decode cX1_areSo 47 = .ok (.ireturn, 1) := by decide +kernel
theorem dX1_areSo_48 : decode cX1_areSo 48 = .ok (.iinc 3 1, 3) := by decide +kernel
theorem dX1_areSo_51 : decode cX1_areSo 51 = .ok (.goto (-49), 3) := by decide +kernel
theorem dX1_areSo_54 : decode cX1_areSo 54 = .ok (.iconst 1, 1) := by decide +kernel
theorem dX1_areSo_55 : decode cX1_areSo 55 = .ok (.ireturn, 1) := by decide +kernel
theorem dX2_init_0 : decode cX2_init 0 = .ok (.aload_n 0, 1) := by decide +kernel
theorem dX2_init_1 : decode cX2_init 1 = .ok (.invokespecial 3, 3) := by decide +kernel
theorem dX2_init_4 : decode cX2_init 4 = .ok (.aload_n 0, 1) := by decide +kernel
theorem dX2_init_5 : decode cX2_init 5 = .ok (.bipush 14, 2) := by decide +kernel
theorem dX2_init_7 : decode cX2_init 7 = .ok (.anewarray 9, 3) := by decide +kernel
theorem dX2_init_10 : decode cX2_init 10 = .ok (.putfield 11, 3) := by decide +kernel
theorem dX2_init_13 : decode cX2_init 13 = .ok (.iconst 0, 1) := by decide +kernel
theorem dX2_init_14 : decode cX2_init 14 = .ok (.istore_n 1, 1) := by decide +kernel
theorem dX2_init_15 : decode cX2_init 15 = .ok (.iload_n 1, 1) := by decide +kernel
theorem dX2_init_16 : decode cX2_init 16 = .ok (.aload_n 0, 1) := by decide +kernel
theorem dX2_init_17 : decode cX2_init 17 = .ok (.getfield 11, 3) := by decide +kernel
theorem dX2_init_20 : decode cX2_init 20 = .ok (.arraylength, 1) := by decide +kernel
theorem dX2_init_21 : decode cX2_init 21 = .ok (.if_icmp .ge 22, 3) := by decide +kernel
theorem dX2_init_24 : decode cX2_init 24 = .ok (.aload_n 0, 1) := by decide +kernel
theorem dX2_init_25 : decode cX2_init 25 = .ok (.getfield 11, 3) := by decide +kernel
theorem dX2_init_28 : decode cX2_init 28 = .ok (.iload_n 1, 1) := by decide +kernel
theorem dX2_init_29 : decode cX2_init 29 = .ok (.new 9, 3) := by decide +kernel
theorem dX2_init_32 : decode cX2_init 32 = .ok (.dup, 1) := by decide +kernel
theorem dX2_init_33 : decode cX2_init 33 = .ok (.invokespecial 17, 3) := by decide +kernel
theorem dX2_init_36 : decode cX2_init 36 = .ok (.aastore, 1) := by decide +kernel
theorem dX2_init_37 : decode cX2_init 37 = .ok (.iinc 1 1, 3) := by decide +kernel
theorem dX2_init_40 : decode cX2_init 40 = .ok (.goto (-25), 3) := by decide +kernel
theorem dX2_init_43 : decode cX2_init 43 = .ok (.return_, 1) := by decide +kernel
theorem dX2_clear_0 : decode cX2_clear 0 = .ok (.aload_n 0, 1) := by decide +kernel
theorem dX2_clear_1 : decode cX2_clear 1 = .ok (.iconst 0, 1) := by decide +kernel
theorem dX2_clear_2 : decode cX2_clear 2 = .ok (.putfield 18, 3) := by decide +kernel
theorem dX2_clear_5 : decode cX2_clear 5 = .ok (.return_, 1) := by decide +kernel
theorem dX2_remember_0 : decode cX2_remember 0 = .ok (.aload_n 0, 1) := by decide +kernel
theorem dX2_remember_1 : decode cX2_remember 1 = .ok (.aload_n 0, 1) := by decide +kernel
theorem dX2_remember_2 : decode cX2_remember 2 = .ok (.getfield 22, 3) := by decide +kernel
theorem dX2_remember_5 : decode cX2_remember 5 = .ok (.invokevirtual 25, 3) := by decide +kernel
theorem dX2_remember_8 : decode cX2_remember 8 = .ok (.astore_n 2, 1) := by decide +kernel
theorem dX2_remember_9 : decode cX2_remember 9 = .ok (.aload_n 2, 1) := by decide +kernel
theorem dX2_remember_10 : decode cX2_remember 10 = .ok (.ifnull 8, 3) := by decide +kernel
theorem dX2_remember_13 : decode cX2_remember 13 = .ok (.aload_n 2, 1) := by decide +kernel
theorem dX2_remember_14 : decode cX2_remember 14 = .ok (.aload_n 1, 1) := by decide +kernel
theorem dX2_remember_15 : decode cX2_remember 15 = .ok (.invokevirtual 29, 3) := by decide +kernel
theorem dX2_remember_18 : decode cX2_remember 18 = .ok (.aload_n 0, 1) := by decide +kernel
theorem dX2_remember_19 : decode cX2_remember 19 = .ok (.aload_n 0, 1) := by decide +kernel
theorem dX2_remember_20 : decode cX2_remember 20 = .ok (.getfield 22, 3) := by decide +kernel
theorem dX2_remember_23 : decode cX2_remember 23 = .ok (.iconst 1, 1) := by decide +kernel
theorem dX2_remember_24 : decode cX2_remember 24 = .ok (.iadd, 1) := by decide +kernel
theorem dX2_remember_25 : decode cX2_remember 25 = .ok (.bipush 14, 2) := by decide +kernel
theorem dX2_remember_27 : decode cX2_remember 27 = .ok (.irem, 1) := by decide +kernel
theorem dX2_remember_28 : decode cX2_remember 28 = .ok (.putfield 22, 3) := by decide +kernel
theorem dX2_remember_31 : decode cX2_remember 31 = .ok (.aload_n 0, 1) := by decide +kernel
theorem dX2_remember_32 : decode cX2_remember 32 = .ok (.aload_n 0, 1) := by decide +kernel
theorem dX2_remember_33 : decode cX2_remember 33 = .ok (.getfield 18, 3) := by decide +kernel
theorem dX2_remember_36 : decode cX2_remember 36 = .ok (.iconst 1, 1) := by decide +kernel
theorem dX2_remember_37 : decode cX2_remember 37 = .ok (.iadd, 1) := by decide +kernel
theorem dX2_remember_38 : decode cX2_remember 38 = .ok (.bipush 14, 2) := by decide +kernel
theorem dX2_remember_40 : decode cX2_remember 40 = .ok (.invokestatic 33, 3) := by decide +kernel
theorem dX2_remember_43 : decode cX2_remember 43 = .ok (.putfield 18, 3) := by decide +kernel
theorem dX2_remember_46 : decode cX2_remember 46 = .ok (.return_, 1) := by decide +kernel
theorem dX2_takeBack_0 : decode cX2_takeBack 0 = .ok (.aload_n 0, 1) := by decide +kernel
theorem dX2_takeBack_1 : decode cX2_takeBack 1 = .ok (.aload_n 0, 1) := by decide +kernel
theorem dX2_takeBack_2 : decode cX2_takeBack 2 = .ok (.getfield 22, 3) := by decide +kernel
theorem dX2_takeBack_5 : decode cX2_takeBack 5 = .ok (.bipush 14, 2) := by decide +kernel
theorem dX2_takeBack_7 : decode cX2_takeBack 7 = .ok (.iadd, 1) := by decide +kernel
theorem dX2_takeBack_8 : decode cX2_takeBack 8 = .ok (.iconst 1, 1) := by decide +kernel
theorem dX2_takeBack_9 : decode cX2_takeBack 9 = .ok (.isub, 1) := by decide +kernel
theorem dX2_takeBack_10 : decode cX2_takeBack 10 = .ok (.bipush 14, 2) := by decide +kernel
theorem dX2_takeBack_12 : decode cX2_takeBack 12 = .ok (.irem, 1) := by decide +kernel
theorem dX2_takeBack_13 : decode cX2_takeBack 13 = .ok (.putfield 22, 3) := by decide +kernel
theorem dX2_takeBack_16 : decode cX2_takeBack 16 = .ok (.aload_n 0, 1) := by decide +kernel
theorem dX2_takeBack_17 : decode cX2_takeBack 17 = .ok (.aload_n 0, 1) := by decide +kernel
theorem dX2_takeBack_18 : decode cX2_takeBack 18 = .ok (.getfield 18, 3) := by decide +kernel
theorem dX2_takeBack_21 : decode cX2_takeBack 21 = .ok (.iconst 1, 1) := by decide +kernel
theorem dX2_takeBack_22 : decode cX2_takeBack 22 = .ok (.isub, 1) := by decide +kernel
theorem dX2_takeBack_23 : decode cX2_takeBack 23 = .ok (.iconst 0, 1) := by decide +kernel
theorem dX2_takeBack_24 : decode cX2_takeBack 24 = .ok (.invokestatic 39, 3) := by decide +kernel
theorem dX2_takeBack_27 : decode cX2_takeBack 27 = .ok (.putfield 18, 3) := by decide +kernel
theorem dX2_takeBack_30 : decode cX2_takeBack 30 = .ok (.aload_n 0, 1) := by decide +kernel
theorem dX2_takeBack_31 : decode cX2_takeBack 31 = .ok (.aload_n 0, 1) := by decide +kernel
theorem dX2_takeBack_32 : decode cX2_takeBack 32 = .ok (.getfield 22, 3) := by decide +kernel
theorem dX2_takeBack_35 : decode cX2_takeBack 35 = .ok (.invokevirtual 25, 3) := by decide +kernel
theorem dX2_takeBack_38 : decode cX2_takeBack 38 = .ok (.astore_n 2, 1) := by decide +kernel
theorem dX2_takeBack_39 : decode cX2_takeBack 39 = .ok (.aload_n 2, 1) := by decide +kernel
theorem dX2_takeBack_40 : decode cX2_takeBack 40 = .ok (.ifnull 8, 3) := by decide +kernel
theorem dX2_takeBack_43 : decode cX2_takeBack 43 = .ok (.aload_n 1, 1) := by decide +kernel
theorem dX2_takeBack_44 : decode cX2_takeBack 44 = .ok (.aload_n 2, 1) := by decide +kernel
theorem dX2_takeBack_45 : decode cX2_takeBack 45 = .ok (.invokevirtual 29, 3) := by decide +kernel
theorem dX2_takeBack_48 : decode cX2_takeBack 48 = .ok (.return_, 1) := by decide +kernel
theorem dX2_rowAt_0 : decode cX2_rowAt 0 = .ok (.iload_n 1, 1) := by decide +kernel
theorem dX2_rowAt_1 : decode cX2_rowAt 1 = .ok (.ifCond .lt 21, 3) := by decide +kernel
theorem dX2_rowAt_4 : decode cX2_rowAt 4 = .ok (.iload_n 1, 1) := by decide +kernel
theorem dX2_rowAt_5 : decode cX2_rowAt 5 = .ok (.aload_n 0, 1) := by decide +kernel
theorem dX2_rowAt_6 : decode cX2_rowAt 6 = .ok (.getfield 11, 3) := by decide +kernel
theorem dX2_rowAt_9 : decode cX2_rowAt 9 = .ok (.arraylength, 1) := by decide +kernel
theorem dX2_rowAt_10 : decode cX2_rowAt 10 = .ok (.if_icmp .ge 12, 3) := by decide +kernel
theorem dX2_rowAt_13 : decode cX2_rowAt 13 = .ok (.aload_n 0, 1) := by decide +kernel
theorem dX2_rowAt_14 : decode cX2_rowAt 14 = .ok (.getfield 11, 3) := by decide +kernel
theorem dX2_rowAt_17 : decode cX2_rowAt 17 = .ok (.iload_n 1, 1) := by decide +kernel
theorem dX2_rowAt_18 : decode cX2_rowAt 18 = .ok (.aaload, 1) := by decide +kernel
theorem dX2_rowAt_19 : decode cX2_rowAt 19 = .ok (.goto 4, 3) := by decide +kernel
theorem dX2_rowAt_22 : decode cX2_rowAt 22 = .ok (.aconst_null, 1) := by decide +kernel
theorem dX2_rowAt_23 : decode cX2_rowAt 23 = .ok (.areturn, 1) := by decide +kernel
theorem dX3_init_0 : decode cX3_init 0 = .ok (.aload_n 0, 1) := by decide +kernel
theorem dX3_init_1 : decode cX3_init 1 = .ok (.invokespecial 3, 3) := by decide +kernel
theorem dX3_init_4 : decode cX3_init 4 = .ok (.aload_n 0, 1) := by decide +kernel
theorem dX3_init_5 : decode cX3_init 5 = .ok (.iconst 5, 1) := by decide +kernel
theorem dX3_init_6 : decode cX3_init 6 = .ok (.newarray .int, 2) := by decide +kernel
theorem dX3_init_8 : decode cX3_init 8 = .ok (.putfield 9, 3) := by decide +kernel
theorem dX3_init_11 : decode cX3_init 11 = .ok (.aload_n 0, 1) := by decide +kernel
theorem dX3_init_12 : decode cX3_init 12 = .ok (.bipush 25, 2) := by decide +kernel
theorem dX3_init_14 : decode cX3_init 14 = .ok (.newarray .int, 2) := by decide +kernel
theorem dX3_init_16 : decode cX3_init 16 = .ok (.putfield 15, 3) := by decide +kernel
theorem dX3_init_19 : decode cX3_init 19 = .ok (.return_, 1) := by decide +kernel
theorem dX3_begin_0 : decode cX3_begin 0 = .ok (.aload_n 0, 1) := by decide +kernel
theorem dX3_begin_1 : decode cX3_begin 1 = .ok (.iconst 0, 1) := by decide +kernel
theorem dX3_begin_2 : decode cX3_begin 2 = .ok (.invokevirtual 18, 3) := by decide +kernel
theorem dX3_begin_5 : decode cX3_begin 5 = .ok (.iconst 0, 1) := by decide +kernel
theorem dX3_begin_6 : decode cX3_begin 6 = .ok (.istore_n 2, 1) := by decide +kernel
theorem dX3_begin_7 : decode cX3_begin 7 = .ok (.iload_n 2, 1) := by decide +kernel
theorem dX3_begin_8 : decode cX3_begin 8 = .ok (.aload_n 1, 1) := by decide +kernel
theorem dX3_begin_9 : decode cX3_begin 9 = .ok (.getfield 22, 3) := by decide +kernel
theorem dX3_begin_12 : decode cX3_begin 12 = .ok (.if_icmp .ge 25, 3) := by decide +kernel
theorem dX3_begin_15 : decode cX3_begin 15 = .ok (.aload_n 0, 1) := by decide +kernel
theorem dX3_begin_16 : decode cX3_begin 16 = .ok (.getfield 9, 3) := by decide +kernel
theorem dX3_begin_19 : decode cX3_begin 19 = .ok (.iload_n 2, 1) := by decide +kernel
theorem dX3_begin_20 : decode cX3_begin 20 = .ok (.aload_n 1, 1) := by decide +kernel
theorem dX3_begin_21 : decode cX3_begin 21 = .ok (.getfield 28, 3) := by decide +kernel
theorem dX3_begin_24 : decode cX3_begin 24 = .ok (.iload_n 2, 1) := by decide +kernel
theorem dX3_begin_25 : decode cX3_begin 25 = .ok (.invokestatic 31, 3) := by decide +kernel
theorem dX3_begin_28 : decode cX3_begin 28 = .ok (.invokestatic 35, 3) := by decide +kernel
theorem dX3_begin_31 : decode cX3_begin 31 = .ok (.iinc 2 1, 3) := by decide +kernel
theorem dX3_begin_34 : decode cX3_begin 34 = .ok (.goto (-27), 3) := by decide +kernel
theorem dX3_begin_37 : decode cX3_begin 37 = .ok (.return_, 1) := by decide +kernel
theorem dX3_letDown_0 : decode cX3_letDown 0 = .ok (.iconst 0, 1) := by decide +kernel
theorem dX3_letDown_1 : decode cX3_letDown 1 = .ok (.istore_n 2, 1) := by decide +kernel
theorem dX3_letDown_2 : decode cX3_letDown 2 = .ok (.iload_n 2, 1) := by decide +kernel
theorem dX3_letDown_3 : decode cX3_letDown 3 = .ok (.aload_n 0, 1) := by decide +kernel
theorem dX3_letDown_4 : decode cX3_letDown 4 = .ok (.getfield 15, 3) := by decide +kernel
theorem dX3_letDown_7 : decode cX3_letDown 7 = .ok (.arraylength, 1) := by decide +kernel
theorem dX3_letDown_8 : decode cX3_letDown 8 = .ok (.if_icmp .ge 16, 3) := by decide +kernel
theorem dX3_letDown_11 : decode cX3_letDown 11 = .ok (.aload_n 0, 1) := by decide +kernel
theorem dX3_letDown_12 : decode cX3_letDown 12 = .ok (.getfield 15, 3) := by decide +kernel
theorem dX3_letDown_15 : decode cX3_letDown 15 = .ok (.iload_n 2, 1) := by decide +kernel
theorem dX3_letDown_16 : decode cX3_letDown 16 = .ok (.iconst 0, 1) := by decide +kernel
theorem dX3_letDown_17 : decode cX3_letDown 17 = .ok (.iastore, 1) := by decide +kernel
theorem dX3_letDown_18 : decode cX3_letDown 18 = .ok (.iinc 2 1, 3) := by decide +kernel
theorem dX3_letDown_21 : decode cX3_letDown 21 = .ok (.goto (-19), 3) := by decide +kernel
theorem dX3_letDown_24 : decode cX3_letDown 24 = .ok (.aload_n 0, 1) := by decide +kernel
theorem dX3_letDown_25 : decode cX3_letDown 25 = .ok (.iconst 0, 1) := by decide +kernel
theorem dX3_letDown_26 : decode cX3_letDown 26 = .ok (.putfield 39, 3) := by decide +kernel
theorem dX3_letDown_29 : decode cX3_letDown 29 = .ok (.aload_n 0, 1) := by decide +kernel
theorem dX3_letDown_30 : decode cX3_letDown 30 = .ok (.iconst 0, 1) := by decide +kernel
theorem dX3_letDown_31 : decode cX3_letDown 31 = .ok (.putfield 42, 3) := by decide +kernel
theorem dX3_letDown_34 : decode cX3_letDown 34 = .ok (.aload_n 0, 1) := by decide +kernel
theorem dX3_letDown_35 : decode cX3_letDown 35 = .ok (.getfield 9, 3) := by decide +kernel
theorem dX3_letDown_38 : decode cX3_letDown 38 = .ok (.iconst 0, 1) := by decide +kernel
theorem dX3_letDown_39 : decode cX3_letDown 39 = .ok (.iload_n 1, 1) := by decide +kernel
theorem dX3_letDown_40 : decode cX3_letDown 40 = .ok (.invokestatic 35, 3) := by decide +kernel
theorem dX3_letDown_43 : decode cX3_letDown 43 = .ok (.return_, 1) := by decide +kernel
theorem dX3_take_0 : decode cX3_take 0 = .ok (.iconst 0, 1) := by decide +kernel
theorem dX3_take_1 : decode cX3_take 1 = .ok (.istore_n 2, 1) := by decide +kernel
theorem dX3_take_2 : decode cX3_take 2 = .ok (.iload_n 2, 1) := by decide +kernel
theorem dX3_take_3 : decode cX3_take 3 = .ok (.aload_n 0, 1) := by decide +kernel
theorem dX3_take_4 : decode cX3_take 4 = .ok (.getfield 9, 3) := by decide +kernel
theorem dX3_take_7 : decode cX3_take 7 = .ok (.arraylength, 1) := by decide +kernel
theorem dX3_take_8 : decode cX3_take 8 = .ok (.if_icmp .ge 23, 3) := by decide +kernel
theorem dX3_take_11 : decode cX3_take 11 = .ok (.aload_n 0, 1) := by decide +kernel
theorem dX3_take_12 : decode cX3_take 12 = .ok (.getfield 9, 3) := by decide +kernel
theorem dX3_take_15 : decode cX3_take 15 = .ok (.iload_n 2, 1) := by decide +kernel
theorem dX3_take_16 : decode cX3_take 16 = .ok (.aload_n 1, 1) := by decide +kernel
theorem dX3_take_17 : decode cX3_take 17 = .ok (.getfield 9, 3) := by decide +kernel
theorem dX3_take_20 : decode cX3_take 20 = .ok (.iload_n 2, 1) := by decide +kernel
theorem dX3_take_21 : decode cX3_take 21 = .ok (.invokestatic 31, 3) := by decide +kernel
theorem dX3_take_24 : decode cX3_take 24 = .ok (.iastore, 1) := by decide +kernel
theorem dX3_take_25 : decode cX3_take 25 = .ok (.iinc 2 1, 3) := by decide +kernel
theorem dX3_take_28 : decode cX3_take 28 = .ok (.goto (-26), 3) := by decide +kernel
theorem dX3_take_31 : decode cX3_take 31 = .ok (.iconst 0, 1) := by decide +kernel
theorem dX3_take_32 : decode cX3_take 32 = .ok (.istore_n 2, 1) := by decide +kernel
theorem dX3_take_33 : decode cX3_take 33 = .ok (.iload_n 2, 1) := by decide +kernel
theorem dX3_take_34 : decode cX3_take 34 = .ok (.aload_n 0, 1) := by decide +kernel
theorem dX3_take_35 : decode cX3_take 35 = .ok (.getfield 15, 3) := by decide +kernel
theorem dX3_take_38 : decode cX3_take 38 = .ok (.arraylength, 1) := by decide +kernel
theorem dX3_take_39 : decode cX3_take 39 = .ok (.if_icmp .ge 23, 3) := by decide +kernel
theorem dX3_take_42 : decode cX3_take 42 = .ok (.aload_n 0, 1) := by decide +kernel
theorem dX3_take_43 : decode cX3_take 43 = .ok (.getfield 15, 3) := by decide +kernel
theorem dX3_take_46 : decode cX3_take 46 = .ok (.iload_n 2, 1) := by decide +kernel
theorem dX3_take_47 : decode cX3_take 47 = .ok (.aload_n 1, 1) := by decide +kernel
theorem dX3_take_48 : decode cX3_take 48 = .ok (.getfield 15, 3) := by decide +kernel
theorem dX3_take_51 : decode cX3_take 51 = .ok (.iload_n 2, 1) := by decide +kernel
theorem dX3_take_52 : decode cX3_take 52 = .ok (.invokestatic 31, 3) := by decide +kernel
theorem dX3_take_55 : decode cX3_take 55 = .ok (.iastore, 1) := by decide +kernel
theorem dX3_take_56 : decode cX3_take 56 = .ok (.iinc 2 1, 3) := by decide +kernel
theorem dX3_take_59 : decode cX3_take 59 = .ok (.goto (-26), 3) := by decide +kernel
theorem dX3_take_62 : decode cX3_take 62 = .ok (.aload_n 0, 1) := by decide +kernel
theorem dX3_take_63 : decode cX3_take 63 = .ok (.aload_n 1, 1) := by decide +kernel
theorem dX3_take_64 : decode cX3_take 64 = .ok (.getfield 39, 3) := by decide +kernel
theorem dX3_take_67 : decode cX3_take 67 = .ok (.putfield 39, 3) := by decide +kernel
theorem dX3_take_70 : decode cX3_take 70 = .ok (.aload_n 0, 1) := by decide +kernel
theorem dX3_take_71 : decode cX3_take 71 = .ok (.aload_n 1, 1) := by decide +kernel
theorem dX3_take_72 : decode cX3_take 72 = .ok (.getfield 42, 3) := by decide +kernel
theorem dX3_take_75 : decode cX3_take 75 = .ok (.putfield 42, 3) := by decide +kernel
theorem dX3_take_78 : decode cX3_take 78 = .ok (.return_, 1) := by decide +kernel
theorem dX3_isMoored_0 : decode cX3_isMoored 0 = .ok (.aload_n 0, 1) := by decide +kernel
theorem dX3_isMoored_1 : decode cX3_isMoored 1 = .ok (.getfield 39, 3) := by decide +kernel
theorem dX3_isMoored_4 : decode cX3_isMoored 4 = .ok (.iload_n 1, 1) := by decide +kernel
theorem dX3_isMoored_5 : decode cX3_isMoored 5 = .ok (.ishr, 1) := by decide +kernel
theorem dX3_isMoored_6 : decode cX3_isMoored 6 = .ok (.iconst 1, 1) := by decide +kernel
theorem dX3_isMoored_7 : decode cX3_isMoored 7 = .ok (.iand, 1) := by decide +kernel
theorem dX3_isMoored_8 : decode cX3_isMoored 8 = .ok (.iconst 1, 1) := by decide +kernel
theorem dX3_isMoored_9 : decode cX3_isMoored 9 = .ok (.if_icmp .ne 7, 3) := by decide +kernel
theorem dX3_isMoored_12 : decode cX3_isMoored 12 = .ok (.iconst 1, 1) := by decide +kernel
theorem dX3_isMoored_13 : decode cX3_isMoored 13 = .ok (.goto 4, 3) := by decide +kernel
theorem dX3_isMoored_16 : decode cX3_isMoored 16 = .ok (.iconst 0, 1) := by decide +kernel
theorem dX3_isMoored_17 : decode cX3_isMoored 17 = .ok (.ireturn, 1) := by decide +kernel
theorem dX3_turnMooring_0 : decode cX3_turnMooring 0 = .ok (.aload_n 0, 1) := by decide +kernel
theorem dX3_turnMooring_1 : decode cX3_turnMooring 1 = .ok (.dup, 1) := by decide +kernel
theorem dX3_turnMooring_2 : decode cX3_turnMooring 2 = .ok (.getfield 39, 3) := by decide +kernel
theorem dX3_turnMooring_5 : decode cX3_turnMooring 5 = .ok (.iconst 1, 1) := by decide +kernel
theorem dX3_turnMooring_6 : decode cX3_turnMooring 6 = .ok (.iload_n 1, 1) := by decide +kernel
theorem dX3_turnMooring_7 : decode cX3_turnMooring 7 = .ok (.ishl, 1) := by decide +kernel
theorem dX3_turnMooring_8 : decode cX3_turnMooring 8 = .ok (.ixor, 1) := by decide +kernel
theorem dX3_turnMooring_9 : decode cX3_turnMooring 9 = .ok (.putfield 39, 3) := by decide +kernel
theorem dX3_turnMooring_12 : decode cX3_turnMooring 12 = .ok (.return_, 1) := by decide +kernel
theorem dX3_fix_0 : decode cX3_fix 0 = .ok (.aload_n 0, 1) := by decide +kernel
theorem dX3_fix_1 : decode cX3_fix 1 = .ok (.getfield 9, 3) := by decide +kernel
theorem dX3_fix_4 : decode cX3_fix 4 = .ok (.iload_n 1, 1) := by decide +kernel
theorem dX3_fix_5 : decode cX3_fix 5 = .ok (.iload_n 2, 1) := by decide +kernel
theorem dX3_fix_6 : decode cX3_fix 6 = .ok (.invokestatic 35, 3) := by decide +kernel
theorem dX3_fix_9 : decode cX3_fix 9 = .ok (.aload_n 0, 1) := by decide +kernel
theorem dX3_fix_10 : decode cX3_fix 10 = .ok (.dup, 1) := by decide +kernel
theorem dX3_fix_11 : decode cX3_fix 11 = .ok (.getfield 39, 3) := by decide +kernel
theorem dX3_fix_14 : decode cX3_fix 14 = .ok (.iconst 1, 1) := by decide +kernel
theorem dX3_fix_15 : decode cX3_fix 15 = .ok (.iload_n 1, 1) := by decide +kernel
theorem dX3_fix_16 : decode cX3_fix 16 = .ok (.ishl, 1) := by decide +kernel
theorem dX3_fix_17 : decode cX3_fix 17 = .ok (.ior, 1) := by decide +kernel
theorem dX3_fix_18 : decode cX3_fix 18 = .ok (.putfield 39, 3) := by decide +kernel
theorem dX3_fix_21 : decode cX3_fix 21 = .ok (.return_, 1) := by decide +kernel
theorem dX3_known_0 : decode cX3_known 0 = .ok (.aload_n 0, 1) := by decide +kernel
theorem dX3_known_1 : decode cX3_known 1 = .ok (.getfield 15, 3) := by decide +kernel
theorem dX3_known_4 : decode cX3_known 4 = .ok (.iload_n 1, 1) := by decide +kernel
theorem dX3_known_5 : decode cX3_known 5 = .ok (.iconst 5, 1) := by decide +kernel
theorem dX3_known_6 : decode cX3_known 6 = .ok (.imul, 1) := by decide +kernel
theorem dX3_known_7 : decode cX3_known 7 = .ok (.iload_n 2, 1) := by decide +kernel
theorem dX3_known_8 : decode cX3_known 8 = .ok (.iadd, 1) := by decide +kernel
theorem dX3_known_9 : decode cX3_known 9 = .ok (.invokestatic 31, 3) := by decide +kernel
theorem dX3_known_12 : decode cX3_known 12 = .ok (.ireturn, 1) := by decide +kernel
theorem dX3_weight_0 : decode cX3_weight 0 = .ok (.iconst 0, 1) := by decide +kernel
theorem dX3_weight_1 : decode cX3_weight 1 = .ok (.istore_n 2, 1) := by decide +kernel
theorem dX3_weight_2 : decode cX3_weight 2 = .ok (.iconst 0, 1) := by decide +kernel
theorem dX3_weight_3 : decode cX3_weight 3 = .ok (.istore_n 3, 1) := by decide +kernel
theorem dX3_weight_4 : decode cX3_weight 4 = .ok (.iload_n 3, 1) := by decide +kernel
theorem dX3_weight_5 : decode cX3_weight 5 = .ok (.iconst 5, 1) := by decide +kernel
theorem dX3_weight_6 : decode cX3_weight 6 = .ok (.if_icmp .ge 18, 3) := by decide +kernel
theorem dX3_weight_9 : decode cX3_weight 9 = .ok (.iload_n 2, 1) := by decide +kernel
theorem dX3_weight_10 : decode cX3_weight 10 = .ok (.aload_n 0, 1) := by decide +kernel
theorem dX3_weight_11 : decode cX3_weight 11 = .ok (.iload_n 1, 1) := by decide +kernel
theorem dX3_weight_12 : decode cX3_weight 12 = .ok (.iload_n 3, 1) := by decide +kernel
theorem dX3_weight_13 : decode cX3_weight 13 = .ok (.invokevirtual 45, 3) := by decide +kernel
theorem dX3_weight_16 : decode cX3_weight 16 = .ok (.iadd, 1) := by decide +kernel
theorem dX3_weight_17 : decode cX3_weight 17 = .ok (.istore_n 2, 1) := by decide +kernel
theorem dX3_weight_18 : decode cX3_weight 18 = .ok (.iinc 3 1, 3) := by decide +kernel
theorem dX3_weight_21 : decode cX3_weight 21 = .ok (.goto (-17), 3) := by decide +kernel
theorem dX3_weight_24 : decode cX3_weight 24 = .ok (.iload_n 2, 1) := by decide +kernel
theorem dX3_weight_25 : decode cX3_weight 25 = .ok (.ireturn, 1) := by decide +kernel
theorem dX3_weights_0 : decode cX3_weights 0 = .ok (.iconst 0, 1) := by decide +kernel
theorem dX3_weights_1 : decode cX3_weights 1 = .ok (.istore_n 1, 1) := by decide +kernel
theorem dX3_weights_2 : decode cX3_weights 2 = .ok (.iconst 0, 1) := by decide +kernel
theorem dX3_weights_3 : decode cX3_weights 3 = .ok (.istore_n 2, 1) := by decide +kernel
theorem dX3_weights_4 : decode cX3_weights 4 = .ok (.iload_n 2, 1) := by decide +kernel
theorem dX3_weights_5 : decode cX3_weights 5 = .ok (.aload_n 0, 1) := by decide +kernel
theorem dX3_weights_6 : decode cX3_weights 6 = .ok (.getfield 15, 3) := by decide +kernel
theorem dX3_weights_9 : decode cX3_weights 9 = .ok (.arraylength, 1) := by decide +kernel
theorem dX3_weights_10 : decode cX3_weights 10 = .ok (.if_icmp .ge 18, 3) := by decide +kernel
theorem dX3_weights_13 : decode cX3_weights 13 = .ok (.iload_n 1, 1) := by decide +kernel
theorem dX3_weights_14 : decode cX3_weights 14 = .ok (.aload_n 0, 1) := by decide +kernel
theorem dX3_weights_15 : decode cX3_weights 15 = .ok (.getfield 15, 3) := by decide +kernel
theorem dX3_weights_18 : decode cX3_weights 18 = .ok (.iload_n 2, 1) := by decide +kernel
theorem dX3_weights_19 : decode cX3_weights 19 = .ok (.iaload, 1) := by decide +kernel
theorem dX3_weights_20 : decode cX3_weights 20 = .ok (.iadd, 1) := by decide +kernel
theorem dX3_weights_21 : decode cX3_weights 21 = .ok (.istore_n 1, 1) := by decide +kernel
theorem dX3_weights_22 : decode cX3_weights 22 = .ok (.iinc 2 1, 3) := by decide +kernel
theorem dX3_weights_25 : decode cX3_weights 25 = .ok (.goto (-21), 3) := by decide +kernel
theorem dX3_weights_28 : decode cX3_weights 28 = .ok (.iload_n 1, 1) := by decide +kernel
theorem dX3_weights_29 : decode cX3_weights 29 = .ok (.ireturn, 1) := by decide +kernel
theorem dX3_unlearn_0 : decode cX3_unlearn 0 = .ok (.iconst 0, 1) := by decide +kernel
theorem dX3_unlearn_1 : decode cX3_unlearn 1 = .ok (.istore_n 2, 1) := by decide +kernel
theorem dX3_unlearn_2 : decode cX3_unlearn 2 = .ok (.iload_n 2, 1) := by decide +kernel
theorem dX3_unlearn_3 : decode cX3_unlearn 3 = .ok (.iconst 5, 1) := by decide +kernel
theorem dX3_unlearn_4 : decode cX3_unlearn 4 = .ok (.if_icmp .ge 22, 3) := by decide +kernel
theorem dX3_unlearn_7 : decode cX3_unlearn 7 = .ok (.aload_n 0, 1) := by decide +kernel
theorem dX3_unlearn_8 : decode cX3_unlearn 8 = .ok (.getfield 15, 3) := by decide +kernel
theorem dX3_unlearn_11 : decode cX3_unlearn 11 = .ok (.iload_n 1, 1) := by decide +kernel
theorem dX3_unlearn_12 : decode cX3_unlearn 12 = .ok (.iconst 5, 1) := by decide +kernel
theorem dX3_unlearn_13 : decode cX3_unlearn 13 = .ok (.imul, 1) := by decide +kernel
theorem dX3_unlearn_14 : decode cX3_unlearn 14 = .ok (.iload_n 2, 1) := by decide +kernel
theorem dX3_unlearn_15 : decode cX3_unlearn 15 = .ok (.iadd, 1) := by decide +kernel
theorem dX3_unlearn_16 : decode cX3_unlearn 16 = .ok (.iconst 0, 1) := by decide +kernel
theorem dX3_unlearn_17 : decode cX3_unlearn 17 = .ok (.invokestatic 35, 3) := by decide +kernel
theorem dX3_unlearn_20 : decode cX3_unlearn 20 = .ok (.iinc 2 1, 3) := by decide +kernel
theorem dX3_unlearn_23 : decode cX3_unlearn 23 = .ok (.goto (-21), 3) := by decide +kernel
theorem dX3_unlearn_26 : decode cX3_unlearn 26 = .ok (.return_, 1) := by decide +kernel
theorem dX3_childrenIn_0 : decode cX3_childrenIn 0 = .ok (.iconst 0, 1) := by decide +kernel
theorem dX3_childrenIn_1 : decode cX3_childrenIn 1 = .ok (.istore_n 3, 1) := by decide +kernel
theorem dX3_childrenIn_2 : decode cX3_childrenIn 2 = .ok (.iconst 0, 1) := by decide +kernel
theorem dX3_childrenIn_3 : decode cX3_childrenIn 3 = .ok (.istore 4, 2) := by decide +kernel
theorem dX3_childrenIn_5 : decode cX3_childrenIn 5 = .ok (.iload 4, 2) := by decide +kernel
theorem dX3_childrenIn_7 : decode cX3_childrenIn 7 = .ok (.iload_n 2, 1) := by decide +kernel
theorem dX3_childrenIn_8 : decode cX3_childrenIn 8 = .ok (.if_icmp .ge 29, 3) := by decide +kernel
theorem dX3_childrenIn_11 : decode cX3_childrenIn 11 = .ok (.aload_n 0, 1) := by decide +kernel
theorem dX3_childrenIn_12 : decode cX3_childrenIn 12 = .ok (.getfield 9, 3) := by decide +kernel
theorem dX3_childrenIn_15 : decode cX3_childrenIn 15 = .ok (.iload 4, 2) := by decide +kernel
theorem dX3_childrenIn_17 : decode cX3_childrenIn 17 = .ok (.invokestatic 31, 3) := by decide +kernel
theorem dX3_childrenIn_20 : decode cX3_childrenIn 20 = .ok (.iload_n 1, 1) := by decide +kernel
theorem dX3_childrenIn_21 : decode cX3_childrenIn 21 = .ok (.if_icmp .ne 10, 3) := by decide +kernel
theorem dX3_childrenIn_24 : decode cX3_childrenIn 24 = .ok (.iload_n 3, 1) := by decide +kernel
theorem dX3_childrenIn_25 : decode cX3_childrenIn 25 = .ok (.iconst 1, 1) := by decide +kernel
theorem dX3_childrenIn_26 : decode cX3_childrenIn 26 = .ok (.iload 4, 2) := by decide +kernel
theorem dX3_childrenIn_28 : decode cX3_childrenIn 28 = .ok (.ishl, 1) := by decide +kernel
theorem dX3_childrenIn_29 : decode cX3_childrenIn 29 = .ok (.ior, 1) := by decide +kernel
theorem dX3_childrenIn_30 : decode cX3_childrenIn 30 = .ok (.istore_n 3, 1) := by decide +kernel
theorem dX3_childrenIn_31 : decode cX3_childrenIn 31 = .ok (.iinc 4 1, 3) := by decide +kernel
theorem dX3_childrenIn_34 : decode cX3_childrenIn 34 = .ok (.goto (-29), 3) := by decide +kernel
theorem dX3_childrenIn_37 : decode cX3_childrenIn 37 = .ok (.iload_n 3, 1) := by decide +kernel
theorem dX3_childrenIn_38 : decode cX3_childrenIn 38 = .ok (.ireturn, 1) := by decide +kernel
theorem dX3_passDays_0 : decode cX3_passDays 0 = .ok (.iconst 0, 1) := by decide +kernel
theorem dX3_passDays_1 : decode cX3_passDays 1 = .ok (.istore_n 3, 1) := by decide +kernel
theorem dX3_passDays_2 : decode cX3_passDays 2 = .ok (.iload_n 3, 1) := by decide +kernel
theorem dX3_passDays_3 : decode cX3_passDays 3 = .ok (.iload_n 2, 1) := by decide +kernel
theorem dX3_passDays_4 : decode cX3_passDays 4 = .ok (.if_icmp .ge 17, 3) := by decide +kernel
theorem dX3_passDays_7 : decode cX3_passDays 7 = .ok (.aload_n 0, 1) := by decide +kernel
theorem dX3_passDays_8 : decode cX3_passDays 8 = .ok (.aload_n 1, 1) := by decide +kernel
theorem dX3_passDays_9 : decode cX3_passDays 9 = .ok (.iconst 1, 1) := by decide +kernel
theorem dX3_passDays_10 : decode cX3_passDays 10 = .ok (.bipush 63, 2) := by decide +kernel
theorem dX3_passDays_12 : decode cX3_passDays 12 = .ok (.invokevirtual 48, 3) := by decide +kernel
theorem dX3_passDays_15 : decode cX3_passDays 15 = .ok (.iinc 3 1, 3) := by decide +kernel
theorem dX3_passDays_18 : decode cX3_passDays 18 = .ok (.goto (-16), 3) := by decide +kernel
theorem dX3_passDays_21 : decode cX3_passDays 21 = .ok (.return_, 1) := by decide +kernel
theorem dX3_pass_0 : decode cX3_pass 0 = .ok (.iload_n 2, 1) := by decide +kernel
theorem dX3_pass_1 : decode cX3_pass 1 = .ok (.ifCond .eq 14, 3) := by decide +kernel
theorem dX3_pass_4 : decode cX3_pass 4 = .ok (.aload_n 1, 1) := by decide +kernel
theorem dX3_pass_5 : decode cX3_pass 5 = .ok (.aload_n 0, 1) := by decide +kernel
theorem dX3_pass_6 : decode cX3_pass 6 = .ok (.getfield 42, 3) := by decide +kernel
theorem dX3_pass_9 : decode cX3_pass 9 = .ok (.invokevirtual 52, 3) := by decide +kernel
theorem dX3_pass_12 : decode cX3_pass 12 = .ok (.goto 4, 3) := by decide +kernel
theorem dX3_pass_15 : decode cX3_pass 15 = .ok (.iconst 4, 1) := by decide +kernel
theorem dX3_pass_16 : decode cX3_pass 16 = .ok (.istore 4, 2) := by decide +kernel
theorem dX3_pass_18 : decode cX3_pass 18 = .ok (.iconst 0, 1) := by decide +kernel
theorem dX3_pass_19 : decode cX3_pass 19 = .ok (.istore 5, 2) := by decide +kernel
theorem dX3_pass_21 : decode cX3_pass 21 = .ok (.iload 5, 2) := by decide +kernel
theorem dX3_pass_23 : decode cX3_pass 23 = .ok (.aload_n 1, 1) := by decide +kernel
theorem dX3_pass_24 : decode cX3_pass 24 = .ok (.getfield 22, 3) := by decide +kernel
theorem dX3_pass_27 : decode cX3_pass 27 = .ok (.if_icmp .ge 17, 3) := by decide +kernel
theorem dX3_pass_30 : decode cX3_pass 30 = .ok (.aload_n 0, 1) := by decide +kernel
theorem dX3_pass_31 : decode cX3_pass 31 = .ok (.iload 5, 2) := by decide +kernel
theorem dX3_pass_33 : decode cX3_pass 33 = .ok (.iload 4, 2) := by decide +kernel
theorem dX3_pass_35 : decode cX3_pass 35 = .ok (.invokevirtual 56, 3) := by decide +kernel
theorem dX3_pass_38 : decode cX3_pass 38 = .ok (.iinc 5 1, 3) := by decide +kernel
theorem dX3_pass_41 : decode cX3_pass 41 = .ok (.goto (-20), 3) := by decide +kernel
theorem dX3_pass_44 : decode cX3_pass 44 = .ok (.iconst 0, 1) := by decide +kernel
theorem dX3_pass_45 : decode cX3_pass 45 = .ok (.istore 5, 2) := by decide +kernel
theorem dX3_pass_47 : decode cX3_pass 47 = .ok (.iload 5, 2) := by decide +kernel
theorem dX3_pass_49 : decode cX3_pass 49 = .ok (.aload_n 1, 1) := by decide +kernel
theorem dX3_pass_50 : decode cX3_pass 50 = .ok (.getfield 22, 3) := by decide +kernel
theorem dX3_pass_53 : decode cX3_pass 53 = .ok (.if_icmp .ge 45, 3) := by decide +kernel
theorem dX3_pass_56 : decode cX3_pass 56 = .ok (.aload_n 1, 1) := by decide +kernel
theorem dX3_pass_57 : decode cX3_pass 57 = .ok (.getfield 60, 3) := by decide +kernel
theorem dX3_pass_60 : decode cX3_pass 60 = .ok (.iload 5, 2) := by decide +kernel
theorem dX3_pass_62 : decode cX3_pass 62 = .ok (.invokestatic 31, 3) := by decide +kernel
theorem dX3_pass_65 : decode cX3_pass 65 = .ok (.istore 6, 2) := by decide +kernel
theorem dX3_pass_67 : decode cX3_pass 67 = .ok (.aload_n 0, 1) := by decide +kernel
theorem dX3_pass_68 : decode cX3_pass 68 = .ok (.iload 5, 2) := by decide +kernel
theorem dX3_pass_70 : decode cX3_pass 70 = .ok (.iload 6, 2) := by decide +kernel
theorem dX3_pass_72 : decode cX3_pass 72 = .ok (.aload_n 1, 1) := by decide +kernel
theorem dX3_pass_73 : decode cX3_pass 73 = .ok (.getfield 22, 3) := by decide +kernel
theorem dX3_pass_76 : decode cX3_pass 76 = .ok (.invokevirtual 63, 3) := by decide +kernel
theorem dX3_pass_79 : decode cX3_pass 79 = .ok (.ifCond .eq 13, 3) := by decide +kernel
theorem dX3_pass_82 : decode cX3_pass 82 = .ok (.aload_n 0, 1) := by decide +kernel
theorem dX3_pass_83 : decode cX3_pass 83 = .ok (.iload 5, 2) := by decide +kernel
theorem dX3_pass_85 : decode cX3_pass 85 = .ok (.iload 6, 2) := by decide +kernel
theorem dX3_pass_87 : decode cX3_pass 87 = .ok (.aload_n 1, 1) := by decide +kernel
theorem dX3_pass_88 : decode cX3_pass 88 = .ok (.iload_n 3, 1) := by decide +kernel
theorem dX3_pass_89 : decode cX3_pass 89 = .ok (.invokevirtual 67, 3) := by decide +kernel
theorem dX3_pass_92 : decode cX3_pass 92 = .ok (.iinc 5 1, 3) := by decide +kernel
theorem dX3_pass_95 : decode cX3_pass 95 = .ok (.goto (-48), 3) := by decide +kernel
theorem dX3_pass_98 : decode cX3_pass 98 = .ok (.aload_n 0, 1) := by decide +kernel
theorem dX3_pass_99 : decode cX3_pass 99 = .ok (.dup, 1) := by decide +kernel
theorem dX3_pass_100 : decode cX3_pass 100 = .ok (.getfield 42, 3) := by decide +kernel
theorem dX3_pass_103 : decode cX3_pass 103 = .ok (.iconst 1, 1) := by decide +kernel
theorem dX3_pass_104 : decode cX3_pass 104 = .ok (.iadd, 1) := by decide +kernel
theorem dX3_pass_105 : decode cX3_pass 105 = .ok (.putfield 42, 3) := by decide +kernel
theorem dX3_pass_108 : decode cX3_pass 108 = .ok (.return_, 1) := by decide +kernel
theorem dX3_passAlone_0 : decode cX3_passAlone 0 = .ok (.aload_n 0, 1) := by decide +kernel
theorem dX3_passAlone_1 : decode cX3_passAlone 1 = .ok (.iconst 0, 1) := by decide +kernel
theorem dX3_passAlone_2 : decode cX3_passAlone 2 = .ok (.aload_n 1, 1) := by decide +kernel
theorem dX3_passAlone_3 : decode cX3_passAlone 3 = .ok (.aload_n 0, 1) := by decide +kernel
theorem dX3_passAlone_4 : decode cX3_passAlone 4 = .ok (.getfield 42, 3) := by decide +kernel
theorem dX3_passAlone_7 : decode cX3_passAlone 7 = .ok (.invokevirtual 52, 3) := by decide +kernel
theorem dX3_passAlone_10 : decode cX3_passAlone 10 = .ok (.invokevirtual 56, 3) := by decide +kernel
theorem dX3_passAlone_13 : decode cX3_passAlone 13 = .ok (.aload_n 0, 1) := by decide +kernel
theorem dX3_passAlone_14 : decode cX3_passAlone 14 = .ok (.iconst 0, 1) := by decide +kernel
theorem dX3_passAlone_15 : decode cX3_passAlone 15 = .ok (.iconst 0, 1) := by decide +kernel
theorem dX3_passAlone_16 : decode cX3_passAlone 16 = .ok (.aload_n 1, 1) := by decide +kernel
theorem dX3_passAlone_17 : decode cX3_passAlone 17 = .ok (.bipush 63, 2) := by decide +kernel
theorem dX3_passAlone_19 : decode cX3_passAlone 19 = .ok (.invokevirtual 67, 3) := by decide +kernel
theorem dX3_passAlone_22 : decode cX3_passAlone 22 = .ok (.aload_n 0, 1) := by decide +kernel
theorem dX3_passAlone_23 : decode cX3_passAlone 23 = .ok (.dup, 1) := by decide +kernel
theorem dX3_passAlone_24 : decode cX3_passAlone 24 = .ok (.getfield 42, 3) := by decide +kernel
theorem dX3_passAlone_27 : decode cX3_passAlone 27 = .ok (.iconst 1, 1) := by decide +kernel
theorem dX3_passAlone_28 : decode cX3_passAlone 28 = .ok (.iadd, 1) := by decide +kernel
theorem dX3_passAlone_29 : decode cX3_passAlone 29 = .ok (.putfield 42, 3) := by decide +kernel
theorem dX3_passAlone_32 : decode cX3_passAlone 32 = .ok (.return_, 1) := by decide +kernel
theorem dX3_drift_0 : decode cX3_drift 0 = .ok (.aload_n 0, 1) := by decide +kernel
theorem dX3_drift_1 : decode cX3_drift 1 = .ok (.iload_n 1, 1) := by decide +kernel
theorem dX3_drift_2 : decode cX3_drift 2 = .ok (.invokevirtual 71, 3) := by decide +kernel
theorem dX3_drift_5 : decode cX3_drift 5 = .ok (.ifCond .ne 23, 3) := by decide +kernel
theorem dX3_drift_8 : decode cX3_drift 8 = .ok (.aload_n 0, 1) := by decide +kernel
theorem dX3_drift_9 : decode cX3_drift 9 = .ok (.getfield 9, 3) := by decide +kernel
theorem dX3_drift_12 : decode cX3_drift 12 = .ok (.iload_n 1, 1) := by decide +kernel
theorem dX3_drift_13 : decode cX3_drift 13 = .ok (.aload_n 0, 1) := by decide +kernel
theorem dX3_drift_14 : decode cX3_drift 14 = .ok (.getfield 9, 3) := by decide +kernel
theorem dX3_drift_17 : decode cX3_drift 17 = .ok (.iload_n 1, 1) := by decide +kernel
theorem dX3_drift_18 : decode cX3_drift 18 = .ok (.invokestatic 31, 3) := by decide +kernel
theorem dX3_drift_21 : decode cX3_drift 21 = .ok (.iload_n 2, 1) := by decide +kernel
theorem dX3_drift_22 : decode cX3_drift 22 = .ok (.invokestatic 75, 3) := by decide +kernel
theorem dX3_drift_25 : decode cX3_drift 25 = .ok (.invokestatic 35, 3) := by decide +kernel
theorem dX3_drift_28 : decode cX3_drift 28 = .ok (.return_, 1) := by decide +kernel
theorem dX3_mayLearn_0 : decode cX3_mayLearn 0 = .ok (.iload_n 2, 1) := by decide +kernel
theorem dX3_mayLearn_1 : decode cX3_mayLearn 1 = .ok (.lookupswitch 67 #[(2, 27), (3, 42)], 27) := by decide +kernel
theorem dX3_mayLearn_28 : decode cX3_mayLearn 28 = .ok (.aload_n 0, 1) := by decide +kernel
theorem dX3_mayLearn_29 : decode cX3_mayLearn 29 = .ok (.getfield 42, 3) := by decide +kernel
theorem dX3_mayLearn_32 : decode cX3_mayLearn 32 = .ok (.iconst 2, 1) := by decide +kernel
theorem dX3_mayLearn_33 : decode cX3_mayLearn 33 = .ok (.irem, 1) := by decide +kernel
theorem dX3_mayLearn_34 : decode cX3_mayLearn 34 = .ok (.ifCond .eq 7, 3) := by decide +kernel
theorem dX3_mayLearn_37 : decode cX3_mayLearn 37 = .ok (.iconst 1, 1) := by decide +kernel
theorem dX3_mayLearn_38 : decode cX3_mayLearn 38 = .ok (.goto 4, 3) := by decide +kernel
theorem dX3_mayLearn_41 : decode cX3_mayLearn 41 = .ok (.iconst 0, 1) := by decide +kernel
theorem dX3_mayLearn_42 : decode cX3_mayLearn 42 = .ok (.ireturn, 1) := by decide +kernel
theorem dX3_mayLearn_43 : decode cX3_mayLearn 43 = .ok (.aload_n 0, 1) := by decide +kernel
theorem dX3_mayLearn_44 : decode cX3_mayLearn 44 = .ok (.aload_n 0, 1) := by decide +kernel
theorem dX3_mayLearn_45 : decode cX3_mayLearn 45 = .ok (.getfield 9, 3) := by decide +kernel
theorem dX3_mayLearn_48 : decode cX3_mayLearn 48 = .ok (.iload_n 1, 1) := by decide +kernel
theorem dX3_mayLearn_49 : decode cX3_mayLearn 49 = .ok (.invokestatic 31, 3) := by decide +kernel
theorem dX3_mayLearn_52 : decode cX3_mayLearn 52 = .ok (.iload_n 3, 1) := by decide +kernel
theorem dX3_mayLearn_53 : decode cX3_mayLearn 53 = .ok (.invokevirtual 78, 3) := by decide +kernel
theorem dX3_mayLearn_56 : decode cX3_mayLearn 56 = .ok (.iconst 1, 1) := by decide +kernel
theorem dX3_mayLearn_57 : decode cX3_mayLearn 57 = .ok (.iload_n 1, 1) := by decide +kernel
theorem dX3_mayLearn_58 : decode cX3_mayLearn 58 = .ok (.ishl, 1) := by decide +kernel
theorem dX3_mayLearn_59 : decode cX3_mayLearn 59 = .ok (.if_icmp .ne 7, 3) := by decide +kernel
theorem dX3_mayLearn_62 : decode cX3_mayLearn 62 = .ok (.iconst 1, 1) := by decide +kernel
theorem dX3_mayLearn_63 : decode cX3_mayLearn 63 = .ok (.goto 4, 3) := by decide +kernel
theorem dX3_mayLearn_66 : decode cX3_mayLearn 66 = .ok (.iconst 0, 1) := by decide +kernel
theorem dX3_mayLearn_67 : decode cX3_mayLearn 67 = .ok (.ireturn, 1) := by decide +kernel
theorem dX3_mayLearn_68 : decode cX3_mayLearn 68 = .ok (.iconst 1, 1) := by decide +kernel
theorem dX3_mayLearn_69 : decode cX3_mayLearn 69 = .ok (.ireturn, 1) := by decide +kernel
theorem dX3_learn_0 : decode cX3_learn 0 = .ok (.aload_n 3, 1) := by decide +kernel
theorem dX3_learn_1 : decode cX3_learn 1 = .ok (.aload_n 0, 1) := by decide +kernel
theorem dX3_learn_2 : decode cX3_learn 2 = .ok (.getfield 9, 3) := by decide +kernel
theorem dX3_learn_5 : decode cX3_learn 5 = .ok (.iload_n 1, 1) := by decide +kernel
theorem dX3_learn_6 : decode cX3_learn 6 = .ok (.invokestatic 31, 3) := by decide +kernel
theorem dX3_learn_9 : decode cX3_learn 9 = .ok (.invokevirtual 81, 3) := by decide +kernel
theorem dX3_learn_12 : decode cX3_learn 12 = .ok (.istore 5, 2) := by decide +kernel
theorem dX3_learn_14 : decode cX3_learn 14 = .ok (.iload 5, 2) := by decide +kernel
theorem dX3_learn_16 : decode cX3_learn 16 = .ok (.ifCond .lt 13, 3) := by decide +kernel
theorem dX3_learn_19 : decode cX3_learn 19 = .ok (.iload 4, 2) := by decide +kernel
theorem dX3_learn_21 : decode cX3_learn 21 = .ok (.iload 5, 2) := by decide +kernel
theorem dX3_learn_23 : decode cX3_learn 23 = .ok (.ishr, 1) := by decide +kernel
theorem dX3_learn_24 : decode cX3_learn 24 = .ok (.iconst 1, 1) := by decide +kernel
theorem dX3_learn_25 : decode cX3_learn 25 = .ok (.iand, 1) := by decide +kernel
theorem dX3_learn_26 : decode cX3_learn 26 = .ok (.ifCond .ne 4, 3) := by decide +kernel
theorem dX3_learn_29 : decode cX3_learn 29 = .ok (.return_, 1) := by decide +kernel
theorem dX3_learn_30 : decode cX3_learn 30 = .ok (.aload_n 3, 1) := by decide +kernel
theorem dX3_learn_31 : decode cX3_learn 31 = .ok (.getfield 84, 3) := by decide +kernel
theorem dX3_learn_34 : decode cX3_learn 34 = .ok (.iload 5, 2) := by decide +kernel
theorem dX3_learn_36 : decode cX3_learn 36 = .ok (.invokestatic 31, 3) := by decide +kernel
theorem dX3_learn_39 : decode cX3_learn 39 = .ok (.istore 6, 2) := by decide +kernel
theorem dX3_learn_41 : decode cX3_learn 41 = .ok (.aload_n 0, 1) := by decide +kernel
theorem dX3_learn_42 : decode cX3_learn 42 = .ok (.iload_n 1, 1) := by decide +kernel
theorem dX3_learn_43 : decode cX3_learn 43 = .ok (.iload 6, 2) := by decide +kernel
theorem dX3_learn_45 : decode cX3_learn 45 = .ok (.invokevirtual 45, 3) := by decide +kernel
theorem dX3_learn_48 : decode cX3_learn 48 = .ok (.istore 7, 2) := by decide +kernel
theorem dX3_learn_50 : decode cX3_learn 50 = .ok (.iload 7, 2) := by decide +kernel
theorem dX3_learn_52 : decode cX3_learn 52 = .ok (.aload_n 3, 1) := by decide +kernel
theorem dX3_learn_53 : decode cX3_learn 53 = .ok (.getfield 87, 3) := by decide +kernel
theorem dX3_learn_56 : decode cX3_learn 56 = .ok (.iload 5, 2) := by decide +kernel
theorem dX3_learn_58 : decode cX3_learn 58 = .ok (.invokestatic 31, 3) := by decide +kernel
theorem dX3_learn_61 : decode cX3_learn 61 = .ok (.iload_n 2, 1) := by decide +kernel
theorem dX3_learn_62 : decode cX3_learn 62 = .ok (.iload 7, 2) := by decide +kernel
theorem dX3_learn_64 : decode cX3_learn 64 = .ok (.invokestatic 90, 3) := by decide +kernel
theorem dX3_learn_67 : decode cX3_learn 67 = .ok (.iadd, 1) := by decide +kernel
theorem dX3_learn_68 : decode cX3_learn 68 = .ok (.istore 8, 2) := by decide +kernel
theorem dX3_learn_70 : decode cX3_learn 70 = .ok (.aload_n 0, 1) := by decide +kernel
theorem dX3_learn_71 : decode cX3_learn 71 = .ok (.getfield 15, 3) := by decide +kernel
theorem dX3_learn_74 : decode cX3_learn 74 = .ok (.iload_n 1, 1) := by decide +kernel
theorem dX3_learn_75 : decode cX3_learn 75 = .ok (.iconst 5, 1) := by decide +kernel
theorem dX3_learn_76 : decode cX3_learn 76 = .ok (.imul, 1) := by decide +kernel
theorem dX3_learn_77 : decode cX3_learn 77 = .ok (.iload 6, 2) := by decide +kernel
theorem dX3_learn_79 : decode cX3_learn 79 = .ok (.iadd, 1) := by decide +kernel
theorem dX3_learn_80 : decode cX3_learn 80 = .ok (.iconst 0, 1) := by decide +kernel
theorem dX3_learn_81 : decode cX3_learn 81 = .ok (.bipush 9, 2) := by decide +kernel
theorem dX3_learn_83 : decode cX3_learn 83 = .ok (.iload 8, 2) := by decide +kernel
theorem dX3_learn_85 : decode cX3_learn 85 = .ok (.invokestatic 94, 3) := by decide +kernel
theorem dX3_learn_88 : decode cX3_learn 88 = .ok (.invokestatic 99, 3) := by decide +kernel
theorem dX3_learn_91 : decode cX3_learn 91 = .ok (.invokestatic 35, 3) := by decide +kernel
theorem dX3_learn_94 : decode cX3_learn 94 = .ok (.return_, 1) := by decide +kernel
theorem dJ6_bitCount_0f7a4_0 : decode cJ6_bitCount_0f7a4 0 = .ok (.iload_n 0, 1) := by decide +kernel
theorem dJ6_bitCount_0f7a4_1 : decode cJ6_bitCount_0f7a4 1 = .ok (.iload_n 0, 1) := by decide +kernel
theorem dJ6_bitCount_0f7a4_2 : decode cJ6_bitCount_0f7a4 2 = .ok (.iconst 1, 1) := by decide +kernel
theorem dJ6_bitCount_0f7a4_3 : decode cJ6_bitCount_0f7a4 3 = .ok (.iushr, 1) := by decide +kernel
theorem dJ6_bitCount_0f7a4_4 : decode cJ6_bitCount_0f7a4 4 = .ok (.ldc_w 265, 3) := by decide +kernel
theorem dJ6_bitCount_0f7a4_7 : decode cJ6_bitCount_0f7a4 7 = .ok (.iand, 1) := by decide +kernel
theorem dJ6_bitCount_0f7a4_8 : decode cJ6_bitCount_0f7a4 8 = .ok (.isub, 1) := by decide +kernel
theorem dJ6_bitCount_0f7a4_9 : decode cJ6_bitCount_0f7a4 9 = .ok (.istore_n 0, 1) := by decide +kernel
theorem dJ6_bitCount_0f7a4_10 : decode cJ6_bitCount_0f7a4 10 = .ok (.iload_n 0, 1) := by decide +kernel
theorem dJ6_bitCount_0f7a4_11 : decode cJ6_bitCount_0f7a4 11 = .ok (.ldc_w 266, 3) := by decide +kernel
theorem dJ6_bitCount_0f7a4_14 : decode cJ6_bitCount_0f7a4 14 = .ok (.iand, 1) := by decide +kernel
theorem dJ6_bitCount_0f7a4_15 : decode cJ6_bitCount_0f7a4 15 = .ok (.iload_n 0, 1) := by decide +kernel
theorem dJ6_bitCount_0f7a4_16 : decode cJ6_bitCount_0f7a4 16 = .ok (.iconst 2, 1) := by decide +kernel
theorem dJ6_bitCount_0f7a4_17 : decode cJ6_bitCount_0f7a4 17 = .ok (.iushr, 1) := by decide +kernel
theorem dJ6_bitCount_0f7a4_18 : decode cJ6_bitCount_0f7a4 18 = .ok (.ldc_w 266, 3) := by decide +kernel
theorem dJ6_bitCount_0f7a4_21 : decode cJ6_bitCount_0f7a4 21 = .ok (.iand, 1) := by decide +kernel
theorem dJ6_bitCount_0f7a4_22 : decode cJ6_bitCount_0f7a4 22 = .ok (.iadd, 1) := by decide +kernel
theorem dJ6_bitCount_0f7a4_23 : decode cJ6_bitCount_0f7a4 23 = .ok (.istore_n 0, 1) := by decide +kernel
theorem dJ6_bitCount_0f7a4_24 : decode cJ6_bitCount_0f7a4 24 = .ok (.iload_n 0, 1) := by decide +kernel
theorem dJ6_bitCount_0f7a4_25 : decode cJ6_bitCount_0f7a4 25 = .ok (.iload_n 0, 1) := by decide +kernel
theorem dJ6_bitCount_0f7a4_26 : decode cJ6_bitCount_0f7a4 26 = .ok (.iconst 4, 1) := by decide +kernel
theorem dJ6_bitCount_0f7a4_27 : decode cJ6_bitCount_0f7a4 27 = .ok (.iushr, 1) := by decide +kernel
theorem dJ6_bitCount_0f7a4_28 : decode cJ6_bitCount_0f7a4 28 = .ok (.iadd, 1) := by decide +kernel
theorem dJ6_bitCount_0f7a4_29 : decode cJ6_bitCount_0f7a4 29 = .ok (.ldc_w 267, 3) := by decide +kernel
theorem dJ6_bitCount_0f7a4_32 : decode cJ6_bitCount_0f7a4 32 = .ok (.iand, 1) := by decide +kernel
theorem dJ6_bitCount_0f7a4_33 : decode cJ6_bitCount_0f7a4 33 = .ok (.istore_n 0, 1) := by decide +kernel
theorem dJ6_bitCount_0f7a4_34 : decode cJ6_bitCount_0f7a4 34 = .ok (.iload_n 0, 1) := by decide +kernel
theorem dJ6_bitCount_0f7a4_35 : decode cJ6_bitCount_0f7a4 35 = .ok (.iload_n 0, 1) := by decide +kernel
theorem dJ6_bitCount_0f7a4_36 : decode cJ6_bitCount_0f7a4 36 = .ok (.bipush 8, 2) := by decide +kernel
theorem dJ6_bitCount_0f7a4_38 : decode cJ6_bitCount_0f7a4 38 = .ok (.iushr, 1) := by decide +kernel
theorem dJ6_bitCount_0f7a4_39 : decode cJ6_bitCount_0f7a4 39 = .ok (.iadd, 1) := by decide +kernel
theorem dJ6_bitCount_0f7a4_40 : decode cJ6_bitCount_0f7a4 40 = .ok (.istore_n 0, 1) := by decide +kernel
theorem dJ6_bitCount_0f7a4_41 : decode cJ6_bitCount_0f7a4 41 = .ok (.iload_n 0, 1) := by decide +kernel
theorem dJ6_bitCount_0f7a4_42 : decode cJ6_bitCount_0f7a4 42 = .ok (.iload_n 0, 1) := by decide +kernel
theorem dJ6_bitCount_0f7a4_43 : decode cJ6_bitCount_0f7a4 43 = .ok (.bipush 16, 2) := by decide +kernel
theorem dJ6_bitCount_0f7a4_45 : decode cJ6_bitCount_0f7a4 45 = .ok (.iushr, 1) := by decide +kernel
theorem dJ6_bitCount_0f7a4_46 : decode cJ6_bitCount_0f7a4 46 = .ok (.iadd, 1) := by decide +kernel
theorem dJ6_bitCount_0f7a4_47 : decode cJ6_bitCount_0f7a4 47 = .ok (.istore_n 0, 1) := by decide +kernel
theorem dJ6_bitCount_0f7a4_48 : decode cJ6_bitCount_0f7a4 48 = .ok (.iload_n 0, 1) := by decide +kernel
theorem dJ6_bitCount_0f7a4_49 : decode cJ6_bitCount_0f7a4 49 = .ok (.bipush 63, 2) := by decide +kernel
theorem dJ6_bitCount_0f7a4_51 : decode cJ6_bitCount_0f7a4 51 = .ok (.iand, 1) := by decide +kernel
theorem dJ6_bitCount_0f7a4_52 : decode cJ6_bitCount_0f7a4 52 = .ok (.ireturn, 1) := by decide +kernel
theorem dJ9_abs_0f7a4_0 : decode cJ9_abs_0f7a4 0 = .ok (.iload_n 0, 1) := by decide +kernel
theorem dJ9_abs_0f7a4_1 : decode cJ9_abs_0f7a4 1 = .ok (.ifCond .ge 8, 3) := by decide +kernel
theorem dJ9_abs_0f7a4_4 : decode cJ9_abs_0f7a4 4 = .ok (.iload_n 0, 1) := by decide +kernel
theorem dJ9_abs_0f7a4_5 : decode cJ9_abs_0f7a4 5 = .ok (.ineg, 1) := by decide +kernel
theorem dJ9_abs_0f7a4_6 : decode cJ9_abs_0f7a4 6 = .ok (.goto 4, 3) := by decide +kernel
theorem dJ9_abs_0f7a4_9 : decode cJ9_abs_0f7a4 9 = .ok (.iload_n 0, 1) := by decide +kernel
theorem dJ9_abs_0f7a4_10 : decode cJ9_abs_0f7a4 10 = .ok (.ireturn, 1) := by decide +kernel
theorem dJ9_max_7cf53_0 : decode cJ9_max_7cf53 0 = .ok (.iload_n 0, 1) := by decide +kernel
theorem dJ9_max_7cf53_1 : decode cJ9_max_7cf53 1 = .ok (.iload_n 1, 1) := by decide +kernel
theorem dJ9_max_7cf53_2 : decode cJ9_max_7cf53 2 = .ok (.if_icmp .lt 7, 3) := by decide +kernel
theorem dJ9_max_7cf53_5 : decode cJ9_max_7cf53 5 = .ok (.iload_n 0, 1) := by decide +kernel
theorem dJ9_max_7cf53_6 : decode cJ9_max_7cf53 6 = .ok (.goto 4, 3) := by decide +kernel
theorem dJ9_max_7cf53_9 : decode cJ9_max_7cf53 9 = .ok (.iload_n 1, 1) := by decide +kernel
theorem dJ9_max_7cf53_10 : decode cJ9_max_7cf53 10 = .ok (.ireturn, 1) := by decide +kernel
theorem dJ9_min_7cf53_0 : decode cJ9_min_7cf53 0 = .ok (.iload_n 0, 1) := by decide +kernel
theorem dJ9_min_7cf53_1 : decode cJ9_min_7cf53 1 = .ok (.iload_n 1, 1) := by decide +kernel
theorem dJ9_min_7cf53_2 : decode cJ9_min_7cf53 2 = .ok (.if_icmp .gt 7, 3) := by decide +kernel
theorem dJ9_min_7cf53_5 : decode cJ9_min_7cf53 5 = .ok (.iload_n 0, 1) := by decide +kernel
theorem dJ9_min_7cf53_6 : decode cJ9_min_7cf53 6 = .ok (.goto 4, 3) := by decide +kernel
theorem dJ9_min_7cf53_9 : decode cJ9_min_7cf53 9 = .ok (.iload_n 1, 1) := by decide +kernel
theorem dJ9_min_7cf53_10 : decode cJ9_min_7cf53 10 = .ok (.ireturn, 1) := by decide +kernel
