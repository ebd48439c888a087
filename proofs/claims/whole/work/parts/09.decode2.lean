theorem dX12_spelt_73 : decode cX12_spelt 73 = .ok (.lreturn, 1) := by decide +kernel
theorem dX12_isKey_0 : decode cX12_isKey 0 = .ok (.aload_n 0, 1) := by decide +kernel
theorem dX12_isKey_1 : decode cX12_isKey 1 = .ok (.getfield 81, 3) := by decide +kernel
theorem dX12_isKey_4 : decode cX12_isKey 4 = .ok (.iconst 2, 1) := by decide +kernel
theorem dX12_isKey_5 : decode cX12_isKey 5 = .ok (.if_icmp .ne 16, 3) := by decide +kernel
theorem dX12_isKey_8 : decode cX12_isKey 8 = .ok (.aload_n 0, 1) := by decide +kernel
theorem dX12_isKey_9 : decode cX12_isKey 9 = .ok (.getfield 94, 3) := by decide +kernel
theorem dX12_isKey_12 : decode cX12_isKey 12 = .ok (.lload_n 1, 1) := by decide +kernel
theorem dX12_isKey_13 : decode cX12_isKey 13 = .ok (.lcmp, 1) := by decide +kernel
theorem dX12_isKey_14 : decode cX12_isKey 14 = .ok (.ifCond .ne 7, 3) := by decide +kernel
theorem dX12_isKey_17 : decode cX12_isKey 17 = .ok (.iconst 1, 1) := by decide +kernel
theorem dX12_isKey_18 : decode cX12_isKey 18 = .ok (.goto 4, 3) := by decide +kernel
theorem dX12_isKey_21 : decode cX12_isKey 21 = .ok (.iconst 0, 1) := by decide +kernel
theorem dX12_isKey_22 : decode cX12_isKey 22 = .ok (.ireturn, 1) := by decide +kernel
theorem dX12_isFoam_0 : decode cX12_isFoam 0 = .ok (.aload_n 0, 1) := by decide +kernel
theorem dX12_isFoam_1 : decode cX12_isFoam 1 = .ok (.bipush 102, 2) := by decide +kernel
theorem dX12_isFoam_3 : decode cX12_isFoam 3 = .ok (.bipush 111, 2) := by decide +kernel
theorem dX12_isFoam_5 : decode cX12_isFoam 5 = .ok (.bipush 97, 2) := by decide +kernel
theorem dX12_isFoam_7 : decode cX12_isFoam 7 = .ok (.bipush 109, 2) := by decide +kernel
theorem dX12_isFoam_9 : decode cX12_isFoam 9 = .ok (.iconst 0, 1) := by decide +kernel
theorem dX12_isFoam_10 : decode cX12_isFoam 10 = .ok (.invokestatic 109, 3) := by decide +kernel
theorem dX12_isFoam_13 : decode cX12_isFoam 13 = .ok (.invokevirtual 113, 3) := by decide +kernel
theorem dX12_isFoam_16 : decode cX12_isFoam 16 = .ok (.ireturn, 1) := by decide +kernel
theorem dX12_isThing_0 : decode cX12_isThing 0 = .ok (.aload_n 0, 1) := by decide +kernel
theorem dX12_isThing_1 : decode cX12_isThing 1 = .ok (.bipush 116, 2) := by decide +kernel
theorem dX12_isThing_3 : decode cX12_isThing 3 = .ok (.bipush 104, 2) := by decide +kernel
theorem dX12_isThing_5 : decode cX12_isThing 5 = .ok (.bipush 105, 2) := by decide +kernel
theorem dX12_isThing_7 : decode cX12_isThing 7 = .ok (.bipush 110, 2) := by decide +kernel
theorem dX12_isThing_9 : decode cX12_isThing 9 = .ok (.bipush 103, 2) := by decide +kernel
theorem dX12_isThing_11 : decode cX12_isThing 11 = .ok (.invokestatic 109, 3) := by decide +kernel
theorem dX12_isThing_14 : decode cX12_isThing 14 = .ok (.invokevirtual 113, 3) := by decide +kernel
theorem dX12_isThing_17 : decode cX12_isThing 17 = .ok (.ireturn, 1) := by decide +kernel
theorem dX12_isBox_0 : decode cX12_isBox 0 = .ok (.aload_n 0, 1) := by decide +kernel
theorem dX12_isBox_1 : decode cX12_isBox 1 = .ok (.bipush 98, 2) := by decide +kernel
theorem dX12_isBox_3 : decode cX12_isBox 3 = .ok (.bipush 111, 2) := by decide +kernel
theorem dX12_isBox_5 : decode cX12_isBox 5 = .ok (.bipush 120, 2) := by decide +kernel
theorem dX12_isBox_7 : decode cX12_isBox 7 = .ok (.iconst 0, 1) := by decide +kernel
theorem dX12_isBox_8 : decode cX12_isBox 8 = .ok (.iconst 0, 1) := by decide +kernel
theorem dX12_isBox_9 : decode cX12_isBox 9 = .ok (.invokestatic 109, 3) := by decide +kernel
theorem dX12_isBox_12 : decode cX12_isBox 12 = .ok (.invokevirtual 113, 3) := by decide +kernel
theorem dX12_isBox_15 : decode cX12_isBox 15 = .ok (.ireturn, 1) := by decide +kernel
theorem dX12_isPad_0 : decode cX12_isPad 0 = .ok (.aload_n 0, 1) := by decide +kernel
theorem dX12_isPad_1 : decode cX12_isPad 1 = .ok (.bipush 112, 2) := by decide +kernel
theorem dX12_isPad_3 : decode cX12_isPad 3 = .ok (.bipush 97, 2) := by decide +kernel
theorem dX12_isPad_5 : decode cX12_isPad 5 = .ok (.bipush 100, 2) := by decide +kernel
theorem dX12_isPad_7 : decode cX12_isPad 7 = .ok (.iconst 0, 1) := by decide +kernel
theorem dX12_isPad_8 : decode cX12_isPad 8 = .ok (.iconst 0, 1) := by decide +kernel
theorem dX12_isPad_9 : decode cX12_isPad 9 = .ok (.invokestatic 109, 3) := by decide +kernel
theorem dX12_isPad_12 : decode cX12_isPad 12 = .ok (.invokevirtual 113, 3) := by decide +kernel
theorem dX12_isPad_15 : decode cX12_isPad 15 = .ok (.ireturn, 1) := by decide +kernel
theorem dX12_isDrop_0 : decode cX12_isDrop 0 = .ok (.aload_n 0, 1) := by decide +kernel
theorem dX12_isDrop_1 : decode cX12_isDrop 1 = .ok (.bipush 100, 2) := by decide +kernel
theorem dX12_isDrop_3 : decode cX12_isDrop 3 = .ok (.bipush 114, 2) := by decide +kernel
theorem dX12_isDrop_5 : decode cX12_isDrop 5 = .ok (.bipush 111, 2) := by decide +kernel
theorem dX12_isDrop_7 : decode cX12_isDrop 7 = .ok (.bipush 112, 2) := by decide +kernel
theorem dX12_isDrop_9 : decode cX12_isDrop 9 = .ok (.iconst 0, 1) := by decide +kernel
theorem dX12_isDrop_10 : decode cX12_isDrop 10 = .ok (.invokestatic 109, 3) := by decide +kernel
theorem dX12_isDrop_13 : decode cX12_isDrop 13 = .ok (.invokevirtual 113, 3) := by decide +kernel
theorem dX12_isDrop_16 : decode cX12_isDrop 16 = .ok (.ireturn, 1) := by decide +kernel
theorem dX12_weighs_0 : decode cX12_weighs 0 = .ok (.ldc2_w 105, 3) := by decide +kernel
theorem dX12_weighs_3 : decode cX12_weighs 3 = .ok (.bipush 119, 2) := by decide +kernel
theorem dX12_weighs_5 : decode cX12_weighs 5 = .ok (.bipush 101, 2) := by decide +kernel
theorem dX12_weighs_7 : decode cX12_weighs 7 = .ok (.bipush 105, 2) := by decide +kernel
theorem dX12_weighs_9 : decode cX12_weighs 9 = .ok (.bipush 103, 2) := by decide +kernel
theorem dX12_weighs_11 : decode cX12_weighs 11 = .ok (.bipush 104, 2) := by decide +kernel
theorem dX12_weighs_13 : decode cX12_weighs 13 = .ok (.invokestatic 109, 3) := by decide +kernel
theorem dX12_weighs_16 : decode cX12_weighs 16 = .ok (.lmul, 1) := by decide +kernel
theorem dX12_weighs_17 : decode cX12_weighs 17 = .ok (.ldc2_w 117, 3) := by decide +kernel
theorem dX12_weighs_20 : decode cX12_weighs 20 = .ok (.ladd, 1) := by decide +kernel
theorem dX12_weighs_21 : decode cX12_weighs 21 = .ok (.lreturn, 1) := by decide +kernel
theorem dX12_isTaken_0 : decode cX12_isTaken 0 = .ok (.aload_n 0, 1) := by decide +kernel
theorem dX12_isTaken_1 : decode cX12_isTaken 1 = .ok (.invokevirtual 119, 3) := by decide +kernel
theorem dX12_isTaken_4 : decode cX12_isTaken 4 = .ok (.ifCond .ne 41, 3) := by decide +kernel
theorem dX12_isTaken_7 : decode cX12_isTaken 7 = .ok (.aload_n 0, 1) := by decide +kernel
theorem dX12_isTaken_8 : decode cX12_isTaken 8 = .ok (.invokevirtual 123, 3) := by decide +kernel
theorem dX12_isTaken_11 : decode cX12_isTaken 11 = .ok (.ifCond .ne 34, 3) := by decide +kernel
theorem dX12_isTaken_14 : decode cX12_isTaken 14 = .ok (.aload_n 0, 1) := by decide +kernel
theorem dX12_isTaken_15 : decode cX12_isTaken 15 = .ok (.invokevirtual 126, 3) := by decide +kernel
theorem dX12_isTaken_18 : decode cX12_isTaken 18 = .ok (.ifCond .ne 27, 3) := by decide +kernel
theorem dX12_isTaken_21 : decode cX12_isTaken 21 = .ok (.aload_n 0, 1) := by decide +kernel
theorem dX12_isTaken_22 : decode cX12_isTaken 22 = .ok (.invokevirtual 129, 3) := by decide +kernel
theorem dX12_isTaken_25 : decode cX12_isTaken 25 = .ok (.ifCond .ne 20, 3) := by decide +kernel
theorem dX12_isTaken_28 : decode cX12_isTaken 28 = .ok (.aload_n 0, 1) := by decide +kernel
theorem dX12_isTaken_29 : decode cX12_isTaken 29 = .ok (.invokevirtual 132, 3) := by decide +kernel
theorem dX12_isTaken_32 : decode cX12_isTaken 32 = .ok (.ifCond .ne 13, 3) := by decide +kernel
theorem dX12_isTaken_35 : decode cX12_isTaken 35 = .ok (.aload_n 0, 1) := by decide +kernel
theorem dX12_isTaken_36 : decode cX12_isTaken 36 = .ok (.invokestatic 135, 3) := by decide +kernel
theorem dX12_isTaken_39 : decode cX12_isTaken 39 = .ok (.invokevirtual 113, 3) := by decide +kernel
theorem dX12_isTaken_42 : decode cX12_isTaken 42 = .ok (.ifCond .eq 5, 3) := by decide +kernel
theorem dX12_isTaken_45 : decode cX12_isTaken 45 = .ok (.iconst 1, 1) := by decide +kernel
theorem dX12_isTaken_46 : decode cX12_isTaken 46 = .ok (.ireturn, 1) := by decide +kernel
theorem dX12_isTaken_47 : decode cX12_isTaken 47 = .ok (.aload_n 0, 1) := by decide +kernel
theorem dX12_isTaken_48 : decode cX12_isTaken 48 = .ok (.bipush 107, 2) := by decide +kernel
theorem dX12_isTaken_50 : decode cX12_isTaken 50 = .ok (.bipush 101, 2) := by decide +kernel
theorem dX12_isTaken_52 : decode cX12_isTaken 52 = .ok (.bipush 101, 2) := by decide +kernel
theorem dX12_isTaken_54 : decode cX12_isTaken 54 = .ok (.bipush 112, 2) := by decide +kernel
theorem dX12_isTaken_56 : decode cX12_isTaken 56 = .ok (.bipush 115, 2) := by decide +kernel
theorem dX12_isTaken_58 : decode cX12_isTaken 58 = .ok (.invokestatic 109, 3) := by decide +kernel
theorem dX12_isTaken_61 : decode cX12_isTaken 61 = .ok (.invokevirtual 113, 3) := by decide +kernel
theorem dX12_isTaken_64 : decode cX12_isTaken 64 = .ok (.ifCond .ne 61, 3) := by decide +kernel
theorem dX12_isTaken_67 : decode cX12_isTaken 67 = .ok (.aload_n 0, 1) := by decide +kernel
theorem dX12_isTaken_68 : decode cX12_isTaken 68 = .ok (.bipush 112, 2) := by decide +kernel
theorem dX12_isTaken_70 : decode cX12_isTaken 70 = .ok (.bipush 114, 2) := by decide +kernel
theorem dX12_isTaken_72 : decode cX12_isTaken 72 = .ok (.bipush 105, 2) := by decide +kernel
theorem dX12_isTaken_74 : decode cX12_isTaken 74 = .ok (.bipush 99, 2) := by decide +kernel
theorem dX12_isTaken_76 : decode cX12_isTaken 76 = .ok (.bipush 101, 2) := by decide +kernel
theorem dX12_isTaken_78 : decode cX12_isTaken 78 = .ok (.invokestatic 109, 3) := by decide +kernel
theorem dX12_isTaken_81 : decode cX12_isTaken 81 = .ok (.invokevirtual 113, 3) := by decide +kernel
theorem dX12_isTaken_84 : decode cX12_isTaken 84 = .ok (.ifCond .ne 41, 3) := by decide +kernel
theorem dX12_isTaken_87 : decode cX12_isTaken 87 = .ok (.aload_n 0, 1) := by decide +kernel
theorem dX12_isTaken_88 : decode cX12_isTaken 88 = .ok (.bipush 115, 2) := by decide +kernel
theorem dX12_isTaken_90 : decode cX12_isTaken 90 = .ok (.bipush 105, 2) := by decide +kernel
theorem dX12_isTaken_92 : decode cX12_isTaken 92 = .ok (.bipush 122, 2) := by decide +kernel
theorem dX12_isTaken_94 : decode cX12_isTaken 94 = .ok (.bipush 101, 2) := by decide +kernel
theorem dX12_isTaken_96 : decode cX12_isTaken 96 = .ok (.iconst 0, 1) := by decide +kernel
theorem dX12_isTaken_97 : decode cX12_isTaken 97 = .ok (.invokestatic 109, 3) := by decide +kernel
theorem dX12_isTaken_100 : decode cX12_isTaken 100 = .ok (.invokevirtual 113, 3) := by decide +kernel
theorem dX12_isTaken_103 : decode cX12_isTaken 103 = .ok (.ifCond .ne 22, 3) := by decide +kernel
theorem dX12_isTaken_106 : decode cX12_isTaken 106 = .ok (.aload_n 0, 1) := by decide +kernel
theorem dX12_isTaken_107 : decode cX12_isTaken 107 = .ok (.bipush 109, 2) := by decide +kernel
theorem dX12_isTaken_109 : decode cX12_isTaken 109 = .ok (.bipush 97, 2) := by decide +kernel
theorem dX12_isTaken_111 : decode cX12_isTaken 111 = .ok (.bipush 114, 2) := by decide +kernel
theorem dX12_isTaken_113 : decode cX12_isTaken 113 = .ok (.bipush 107, 2) := by decide +kernel
theorem dX12_isTaken_115 : decode cX12_isTaken 115 = .ok (.iconst 0, 1) := by decide +kernel
theorem dX12_isTaken_116 : decode cX12_isTaken 116 = .ok (.invokestatic 109, 3) := by decide +kernel
theorem dX12_isTaken_119 : decode cX12_isTaken 119 = .ok (.invokevirtual 113, 3) := by decide +kernel
theorem dX12_isTaken_122 : decode cX12_isTaken 122 = .ok (.ifCond .eq 5, 3) := by decide +kernel
theorem dX12_isTaken_125 : decode cX12_isTaken 125 = .ok (.iconst 1, 1) := by decide +kernel
theorem dX12_isTaken_126 : decode cX12_isTaken 126 = .ok (.ireturn, 1) := by decide +kernel
theorem dX12_isTaken_127 : decode cX12_isTaken 127 = .ok (.aload_n 0, 1) := by decide +kernel
theorem dX12_isTaken_128 : decode cX12_isTaken 128 = .ok (.bipush 114, 2) := by decide +kernel
theorem dX12_isTaken_130 : decode cX12_isTaken 130 = .ok (.bipush 111, 2) := by decide +kernel
theorem dX12_isTaken_132 : decode cX12_isTaken 132 = .ok (.bipush 111, 2) := by decide +kernel
theorem dX12_isTaken_134 : decode cX12_isTaken 134 = .ok (.bipush 109, 2) := by decide +kernel
theorem dX12_isTaken_136 : decode cX12_isTaken 136 = .ok (.iconst 0, 1) := by decide +kernel
theorem dX12_isTaken_137 : decode cX12_isTaken 137 = .ok (.invokestatic 109, 3) := by decide +kernel
theorem dX12_isTaken_140 : decode cX12_isTaken 140 = .ok (.invokevirtual 113, 3) := by decide +kernel
theorem dX12_isTaken_143 : decode cX12_isTaken 143 = .ok (.ifCond .ne 62, 3) := by decide +kernel
theorem dX12_isTaken_146 : decode cX12_isTaken 146 = .ok (.aload_n 0, 1) := by decide +kernel
theorem dX12_isTaken_147 : decode cX12_isTaken 147 = .ok (.bipush 98, 2) := by decide +kernel
theorem dX12_isTaken_149 : decode cX12_isTaken 149 = .ok (.bipush 101, 2) := by decide +kernel
theorem dX12_isTaken_151 : decode cX12_isTaken 151 = .ok (.bipush 97, 2) := by decide +kernel
theorem dX12_isTaken_153 : decode cX12_isTaken 153 = .ok (.bipush 114, 2) := by decide +kernel
theorem dX12_isTaken_155 : decode cX12_isTaken 155 = .ok (.bipush 115, 2) := by decide +kernel
theorem dX12_isTaken_157 : decode cX12_isTaken 157 = .ok (.invokestatic 109, 3) := by decide +kernel
theorem dX12_isTaken_160 : decode cX12_isTaken 160 = .ok (.invokevirtual 113, 3) := by decide +kernel
theorem dX12_isTaken_163 : decode cX12_isTaken 163 = .ok (.ifCond .ne 42, 3) := by decide +kernel
theorem dX12_isTaken_166 : decode cX12_isTaken 166 = .ok (.aload_n 0, 1) := by decide +kernel
theorem dX12_isTaken_167 : decode cX12_isTaken 167 = .ok (.bipush 115, 2) := by decide +kernel
theorem dX12_isTaken_169 : decode cX12_isTaken 169 = .ok (.bipush 105, 2) := by decide +kernel
theorem dX12_isTaken_171 : decode cX12_isTaken 171 = .ok (.bipush 100, 2) := by decide +kernel
theorem dX12_isTaken_173 : decode cX12_isTaken 173 = .ok (.bipush 101, 2) := by decide +kernel
theorem dX12_isTaken_175 : decode cX12_isTaken 175 = .ok (.iconst 0, 1) := by decide +kernel
theorem dX12_isTaken_176 : decode cX12_isTaken 176 = .ok (.invokestatic 109, 3) := by decide +kernel
theorem dX12_isTaken_179 : decode cX12_isTaken 179 = .ok (.invokevirtual 113, 3) := by decide +kernel
theorem dX12_isTaken_182 : decode cX12_isTaken 182 = .ok (.ifCond .ne 23, 3) := by decide +kernel
theorem dX12_isTaken_185 : decode cX12_isTaken 185 = .ok (.aload_n 0, 1) := by decide +kernel
theorem dX12_isTaken_186 : decode cX12_isTaken 186 = .ok (.bipush 116, 2) := by decide +kernel
theorem dX12_isTaken_188 : decode cX12_isTaken 188 = .ok (.bipush 104, 2) := by decide +kernel
theorem dX12_isTaken_190 : decode cX12_isTaken 190 = .ok (.bipush 105, 2) := by decide +kernel
theorem dX12_isTaken_192 : decode cX12_isTaken 192 = .ok (.bipush 99, 2) := by decide +kernel
theorem dX12_isTaken_194 : decode cX12_isTaken 194 = .ok (.bipush 107, 2) := by decide +kernel
theorem dX12_isTaken_196 : decode cX12_isTaken 196 = .ok (.invokestatic 109, 3) := by decide +kernel
theorem dX12_isTaken_199 : decode cX12_isTaken 199 = .ok (.invokevirtual 113, 3) := by decide +kernel
theorem dX12_isTaken_202 : decode cX12_isTaken 202 = .ok (.ifCond .eq 5, 3) := by decide +kernel
theorem dX12_isTaken_205 : decode cX12_isTaken 205 = .ok (.iconst 1, 1) := by decide +kernel
theorem dX12_isTaken_206 : decode cX12_isTaken 206 = .ok (.ireturn, 1) := by decide +kernel
theorem dX12_isTaken_207 : decode cX12_isTaken 207 = .ok (.aload_n 0, 1) := by decide +kernel
theorem dX12_isTaken_208 : decode cX12_isTaken 208 = .ok (.bipush 97, 2) := by decide +kernel
theorem dX12_isTaken_210 : decode cX12_isTaken 210 = .ok (.bipush 114, 2) := by decide +kernel
theorem dX12_isTaken_212 : decode cX12_isTaken 212 = .ok (.bipush 101, 2) := by decide +kernel
theorem dX12_isTaken_214 : decode cX12_isTaken 214 = .ok (.bipush 97, 2) := by decide +kernel
theorem dX12_isTaken_216 : decode cX12_isTaken 216 = .ok (.iconst 0, 1) := by decide +kernel
theorem dX12_isTaken_217 : decode cX12_isTaken 217 = .ok (.invokestatic 109, 3) := by decide +kernel
theorem dX12_isTaken_220 : decode cX12_isTaken 220 = .ok (.invokevirtual 113, 3) := by decide +kernel
theorem dX12_isTaken_223 : decode cX12_isTaken 223 = .ok (.ifCond .ne 42, 3) := by decide +kernel
theorem dX12_isTaken_226 : decode cX12_isTaken 226 = .ok (.aload_n 0, 1) := by decide +kernel
theorem dX12_isTaken_227 : decode cX12_isTaken 227 = .ok (.bipush 102, 2) := by decide +kernel
theorem dX12_isTaken_229 : decode cX12_isTaken 229 = .ok (.bipush 114, 2) := by decide +kernel
theorem dX12_isTaken_231 : decode cX12_isTaken 231 = .ok (.bipush 111, 2) := by decide +kernel
theorem dX12_isTaken_233 : decode cX12_isTaken 233 = .ok (.bipush 109, 2) := by decide +kernel
theorem dX12_isTaken_235 : decode cX12_isTaken 235 = .ok (.iconst 0, 1) := by decide +kernel
theorem dX12_isTaken_236 : decode cX12_isTaken 236 = .ok (.invokestatic 109, 3) := by decide +kernel
theorem dX12_isTaken_239 : decode cX12_isTaken 239 = .ok (.invokevirtual 113, 3) := by decide +kernel
theorem dX12_isTaken_242 : decode cX12_isTaken 242 = .ok (.ifCond .ne 23, 3) := by decide +kernel
theorem dX12_isTaken_245 : decode cX12_isTaken 245 = .ok (.aload_n 0, 1) := by decide +kernel
theorem dX12_isTaken_246 : decode cX12_isTaken 246 = .ok (.bipush 116, 2) := by decide +kernel
theorem dX12_isTaken_248 : decode cX12_isTaken 248 = .ok (.bipush 105, 2) := by decide +kernel
theorem dX12_isTaken_250 : decode cX12_isTaken 250 = .ok (.bipush 109, 2) := by decide +kernel
theorem dX12_isTaken_252 : decode cX12_isTaken 252 = .ok (.bipush 101, 2) := by decide +kernel
theorem dX12_isTaken_254 : decode cX12_isTaken 254 = .ok (.bipush 115, 2) := by decide +kernel
theorem dX12_isTaken_256 : decode cX12_isTaken 256 = .ok (.invokestatic 109, 3) := by decide +kernel
theorem dX12_isTaken_259 : decode cX12_isTaken 259 = .ok (.invokevirtual 113, 3) := by decide +kernel
theorem dX12_isTaken_262 : decode cX12_isTaken 262 = .ok (.ifCond .eq 7, 3) := by decide +kernel
theorem dX12_isTaken_265 : decode cX12_isTaken 265 = .ok (.iconst 1, 1) := by decide +kernel
theorem dX12_isTaken_266 : decode cX12_isTaken 266 = .ok (.goto 4, 3) := by decide +kernel
theorem dX12_isTaken_269 : decode cX12_isTaken 269 = .ok (.iconst 0, 1) := by decide +kernel
theorem dX12_isTaken_270 : decode cX12_isTaken 270 = .ok (.ireturn, 1) := by decide +kernel
theorem dX12_bad_0 : decode cX12_bad 0 = .ok (.aload_n 0, 1) := by decide +kernel
theorem dX12_bad_1 : decode cX12_bad 1 = .ok (.aload_n 0, 1) := by decide +kernel
theorem dX12_bad_2 : decode cX12_bad 2 = .ok (.getfield 81, 3) := by decide +kernel
theorem dX12_bad_5 : decode cX12_bad 5 = .ok (.iconst 1, 1) := by decide +kernel
theorem dX12_bad_6 : decode cX12_bad 6 = .ok (.if_icmp .ne 7, 3) := by decide +kernel
theorem dX12_bad_9 : decode cX12_bad 9 = .ok (.iconst 1, 1) := by decide +kernel
theorem dX12_bad_10 : decode cX12_bad 10 = .ok (.goto 4, 3) := by decide +kernel
theorem dX12_bad_13 : decode cX12_bad 13 = .ok (.iload_n 1, 1) := by decide +kernel
theorem dX12_bad_14 : decode cX12_bad 14 = .ok (.putfield 139, 3) := by decide +kernel
theorem dX12_bad_17 : decode cX12_bad 17 = .ok (.aload_n 0, 1) := by decide +kernel
theorem dX12_bad_18 : decode cX12_bad 18 = .ok (.aload_n 0, 1) := by decide +kernel
theorem dX12_bad_19 : decode cX12_bad 19 = .ok (.getfield 78, 3) := by decide +kernel
theorem dX12_bad_22 : decode cX12_bad 22 = .ok (.putfield 142, 3) := by decide +kernel
theorem dX12_bad_25 : decode cX12_bad 25 = .ok (.iconst 0, 1) := by decide +kernel
theorem dX12_bad_26 : decode cX12_bad 26 = .ok (.ireturn, 1) := by decide +kernel
theorem dX12_isSign_0 : decode cX12_isSign 0 = .ok (.aload_n 0, 1) := by decide +kernel
theorem dX12_isSign_1 : decode cX12_isSign 1 = .ok (.getfield 81, 3) := by decide +kernel
theorem dX12_isSign_4 : decode cX12_isSign 4 = .ok (.iconst 4, 1) := by decide +kernel
theorem dX12_isSign_5 : decode cX12_isSign 5 = .ok (.if_icmp .ne 15, 3) := by decide +kernel
theorem dX12_isSign_8 : decode cX12_isSign 8 = .ok (.aload_n 0, 1) := by decide +kernel
theorem dX12_isSign_9 : decode cX12_isSign 9 = .ok (.getfield 91, 3) := by decide +kernel
theorem dX12_isSign_12 : decode cX12_isSign 12 = .ok (.iload_n 1, 1) := by decide +kernel
theorem dX12_isSign_13 : decode cX12_isSign 13 = .ok (.if_icmp .ne 7, 3) := by decide +kernel
theorem dX12_isSign_16 : decode cX12_isSign 16 = .ok (.iconst 1, 1) := by decide +kernel
theorem dX12_isSign_17 : decode cX12_isSign 17 = .ok (.goto 4, 3) := by decide +kernel
theorem dX12_isSign_20 : decode cX12_isSign 20 = .ok (.iconst 0, 1) := by decide +kernel
theorem dX12_isSign_21 : decode cX12_isSign 21 = .ok (.ireturn, 1) := by decide +kernel
theorem dX12_readKey_0 : decode cX12_readKey 0 = .ok (.aload_n 0, 1) := by decide +kernel
theorem dX12_readKey_1 : decode cX12_readKey 1 = .ok (.lload_n 1, 1) := by decide +kernel
theorem dX12_readKey_2 : decode cX12_readKey 2 = .ok (.invokevirtual 113, 3) := by decide +kernel
theorem dX12_readKey_5 : decode cX12_readKey 5 = .ok (.ifCond .ne 9, 3) := by decide +kernel
theorem dX12_readKey_8 : decode cX12_readKey 8 = .ok (.aload_n 0, 1) := by decide +kernel
theorem dX12_readKey_9 : decode cX12_readKey 9 = .ok (.iconst 1, 1) := by decide +kernel
theorem dX12_readKey_10 : decode cX12_readKey 10 = .ok (.invokevirtual 145, 3) := by decide +kernel
theorem dX12_readKey_13 : decode cX12_readKey 13 = .ok (.ireturn, 1) := by decide +kernel
theorem dX12_readKey_14 : decode cX12_readKey 14 = .ok (.aload_n 0, 1) := by decide +kernel
theorem dX12_readKey_15 : decode cX12_readKey 15 = .ok (.invokevirtual 148, 3) := by decide +kernel
theorem dX12_readKey_18 : decode cX12_readKey 18 = .ok (.iconst 1, 1) := by decide +kernel
theorem dX12_readKey_19 : decode cX12_readKey 19 = .ok (.ireturn, 1) := by decide +kernel
theorem dX12_readNumber_0 : decode cX12_readNumber 0 = .ok (.aload_n 0, 1) := by decide +kernel
theorem dX12_readNumber_1 : decode cX12_readNumber 1 = .ok (.getfield 81, 3) := by decide +kernel
theorem dX12_readNumber_4 : decode cX12_readNumber 4 = .ok (.iconst 3, 1) := by decide +kernel
theorem dX12_readNumber_5 : decode cX12_readNumber 5 = .ok (.if_icmp .eq 9, 3) := by decide +kernel
theorem dX12_readNumber_8 : decode cX12_readNumber 8 = .ok (.aload_n 0, 1) := by decide +kernel
theorem dX12_readNumber_9 : decode cX12_readNumber 9 = .ok (.iconst 1, 1) := by decide +kernel
theorem dX12_readNumber_10 : decode cX12_readNumber 10 = .ok (.invokevirtual 145, 3) := by decide +kernel
theorem dX12_readNumber_13 : decode cX12_readNumber 13 = .ok (.ireturn, 1) := by decide +kernel
theorem dX12_readNumber_14 : decode cX12_readNumber 14 = .ok (.aload_n 0, 1) := by decide +kernel
theorem dX12_readNumber_15 : decode cX12_readNumber 15 = .ok (.getfield 98, 3) := by decide +kernel
theorem dX12_readNumber_18 : decode cX12_readNumber 18 = .ok (.iload_n 1, 1) := by decide +kernel
theorem dX12_readNumber_19 : decode cX12_readNumber 19 = .ok (.iload_n 2, 1) := by decide +kernel
theorem dX12_readNumber_20 : decode cX12_readNumber 20 = .ok (.invokestatic 65, 3) := by decide +kernel
theorem dX12_readNumber_23 : decode cX12_readNumber 23 = .ok (.ifCond .ne 9, 3) := by decide +kernel
theorem dX12_readNumber_26 : decode cX12_readNumber 26 = .ok (.aload_n 0, 1) := by decide +kernel
theorem dX12_readNumber_27 : decode cX12_readNumber 27 = .ok (.iconst 2, 1) := by decide +kernel
theorem dX12_readNumber_28 : decode cX12_readNumber 28 = .ok (.invokevirtual 145, 3) := by decide +kernel
theorem dX12_readNumber_31 : decode cX12_readNumber 31 = .ok (.ireturn, 1) := by decide +kernel
theorem dX12_readNumber_32 : decode cX12_readNumber 32 = .ok (.aload_n 0, 1) := by decide +kernel
theorem dX12_readNumber_33 : decode cX12_readNumber 33 = .ok (.aload_n 0, 1) := by decide +kernel
theorem dX12_readNumber_34 : decode cX12_readNumber 34 = .ok (.getfield 98, 3) := by decide +kernel
theorem dX12_readNumber_37 : decode cX12_readNumber 37 = .ok (.putfield 151, 3) := by decide +kernel
theorem dX12_readNumber_40 : decode cX12_readNumber 40 = .ok (.aload_n 0, 1) := by decide +kernel
theorem dX12_readNumber_41 : decode cX12_readNumber 41 = .ok (.invokevirtual 148, 3) := by decide +kernel
theorem dX12_readNumber_44 : decode cX12_readNumber 44 = .ok (.iconst 1, 1) := by decide +kernel
theorem dX12_readNumber_45 : decode cX12_readNumber 45 = .ok (.ireturn, 1) := by decide +kernel
theorem dX12_at_0 : decode cX12_at 0 = .ok (.sipush 484, 3) := by decide +kernel
theorem dX12_at_3 : decode cX12_at 3 = .ok (.iload_n 0, 1) := by decide +kernel
theorem dX12_at_4 : decode cX12_at 4 = .ok (.imul, 1) := by decide +kernel
theorem dX12_at_5 : decode cX12_at 5 = .ok (.ireturn, 1) := by decide +kernel
theorem dX12_find_0 : decode cX12_find 0 = .ok (.iconst 0, 1) := by decide +kernel
theorem dX12_find_1 : decode cX12_find 1 = .ok (.istore_n 2, 1) := by decide +kernel
theorem dX12_find_2 : decode cX12_find 2 = .ok (.iload_n 2, 1) := by decide +kernel
theorem dX12_find_3 : decode cX12_find 3 = .ok (.aload_n 0, 1) := by decide +kernel
theorem dX12_find_4 : decode cX12_find 4 = .ok (.getfield 13, 3) := by decide +kernel
theorem dX12_find_7 : decode cX12_find 7 = .ok (.bipush 20, 2) := by decide +kernel
theorem dX12_find_9 : decode cX12_find 9 = .ok (.invokestatic 154, 3) := by decide +kernel
theorem dX12_find_12 : decode cX12_find 12 = .ok (.iload_n 1, 1) := by decide +kernel
theorem dX12_find_13 : decode cX12_find 13 = .ok (.iadd, 1) := by decide +kernel
theorem dX12_find_14 : decode cX12_find 14 = .ok (.iaload, 1) := by decide +kernel
theorem dX12_find_15 : decode cX12_find 15 = .ok (.if_icmp .ge 30, 3) := by decide +kernel
theorem dX12_find_18 : decode cX12_find 18 = .ok (.aload_n 0, 1) := by decide +kernel
theorem dX12_find_19 : decode cX12_find 19 = .ok (.getfield 19, 3) := by decide +kernel
theorem dX12_find_22 : decode cX12_find 22 = .ok (.bipush 8, 2) := by decide +kernel
theorem dX12_find_24 : decode cX12_find 24 = .ok (.iload_n 1, 1) := by decide +kernel
theorem dX12_find_25 : decode cX12_find 25 = .ok (.imul, 1) := by decide +kernel
theorem dX12_find_26 : decode cX12_find 26 = .ok (.iload_n 2, 1) := by decide +kernel
theorem dX12_find_27 : decode cX12_find 27 = .ok (.iadd, 1) := by decide +kernel
theorem dX12_find_28 : decode cX12_find 28 = .ok (.laload, 1) := by decide +kernel
theorem dX12_find_29 : decode cX12_find 29 = .ok (.aload_n 0, 1) := by decide +kernel
theorem dX12_find_30 : decode cX12_find 30 = .ok (.getfield 94, 3) := by decide +kernel
theorem dX12_find_33 : decode cX12_find 33 = .ok (.lcmp, 1) := by decide +kernel
theorem dX12_find_34 : decode cX12_find 34 = .ok (.ifCond .ne 5, 3) := by decide +kernel
theorem dX12_find_37 : decode cX12_find 37 = .ok (.iload_n 2, 1) := by decide +kernel
theorem dX12_find_38 : decode cX12_find 38 = .ok (.ireturn, 1) := by decide +kernel
theorem dX12_find_39 : decode cX12_find 39 = .ok (.iinc 2 1, 3) := by decide +kernel
theorem dX12_find_42 : decode cX12_find 42 = .ok (.goto (-40), 3) := by decide +kernel
theorem dX12_find_45 : decode cX12_find 45 = .ok (.iconst (-1), 1) := by decide +kernel
theorem dX12_find_46 : decode cX12_find 46 = .ok (.ireturn, 1) := by decide +kernel
theorem dX12_readName_0 : decode cX12_readName 0 = .ok (.aload_n 0, 1) := by decide +kernel
theorem dX12_readName_1 : decode cX12_readName 1 = .ok (.getfield 81, 3) := by decide +kernel
theorem dX12_readName_4 : decode cX12_readName 4 = .ok (.iconst 2, 1) := by decide +kernel
theorem dX12_readName_5 : decode cX12_readName 5 = .ok (.if_icmp .ne 10, 3) := by decide +kernel
theorem dX12_readName_8 : decode cX12_readName 8 = .ok (.aload_n 0, 1) := by decide +kernel
theorem dX12_readName_9 : decode cX12_readName 9 = .ok (.invokevirtual 157, 3) := by decide +kernel
theorem dX12_readName_12 : decode cX12_readName 12 = .ok (.ifCond .eq 9, 3) := by decide +kernel
theorem dX12_readName_15 : decode cX12_readName 15 = .ok (.aload_n 0, 1) := by decide +kernel
theorem dX12_readName_16 : decode cX12_readName 16 = .ok (.iconst 1, 1) := by decide +kernel
theorem dX12_readName_17 : decode cX12_readName 17 = .ok (.invokevirtual 145, 3) := by decide +kernel
theorem dX12_readName_20 : decode cX12_readName 20 = .ok (.ireturn, 1) := by decide +kernel
theorem dX12_readName_21 : decode cX12_readName 21 = .ok (.aload_n 0, 1) := by decide +kernel
theorem dX12_readName_22 : decode cX12_readName 22 = .ok (.iconst 0, 1) := by decide +kernel
theorem dX12_readName_23 : decode cX12_readName 23 = .ok (.invokevirtual 160, 3) := by decide +kernel
theorem dX12_readName_26 : decode cX12_readName 26 = .ok (.iconst (-1), 1) := by decide +kernel
theorem dX12_readName_27 : decode cX12_readName 27 = .ok (.if_icmp .ne 21, 3) := by decide +kernel
theorem dX12_readName_30 : decode cX12_readName 30 = .ok (.aload_n 0, 1) := by decide +kernel
theorem dX12_readName_31 : decode cX12_readName 31 = .ok (.iconst 1, 1) := by decide +kernel
theorem dX12_readName_32 : decode cX12_readName 32 = .ok (.invokevirtual 160, 3) := by decide +kernel
theorem dX12_readName_35 : decode cX12_readName 35 = .ok (.iconst (-1), 1) := by decide +kernel
theorem dX12_readName_36 : decode cX12_readName 36 = .ok (.if_icmp .ne 12, 3) := by decide +kernel
theorem dX12_readName_39 : decode cX12_readName 39 = .ok (.aload_n 0, 1) := by decide +kernel
theorem dX12_readName_40 : decode cX12_readName 40 = .ok (.iconst 2, 1) := by decide +kernel
theorem dX12_readName_41 : decode cX12_readName 41 = .ok (.invokevirtual 160, 3) := by decide +kernel
theorem dX12_readName_44 : decode cX12_readName 44 = .ok (.iconst (-1), 1) := by decide +kernel
theorem dX12_readName_45 : decode cX12_readName 45 = .ok (.if_icmp .eq 9, 3) := by decide +kernel
theorem dX12_readName_48 : decode cX12_readName 48 = .ok (.aload_n 0, 1) := by decide +kernel
theorem dX12_readName_49 : decode cX12_readName 49 = .ok (.iconst 3, 1) := by decide +kernel
theorem dX12_readName_50 : decode cX12_readName 50 = .ok (.invokevirtual 145, 3) := by decide +kernel
theorem dX12_readName_53 : decode cX12_readName 53 = .ok (.ireturn, 1) := by decide +kernel
theorem dX12_readName_54 : decode cX12_readName 54 = .ok (.aload_n 0, 1) := by decide +kernel
theorem dX12_readName_55 : decode cX12_readName 55 = .ok (.getfield 19, 3) := by decide +kernel
theorem dX12_readName_58 : decode cX12_readName 58 = .ok (.bipush 8, 2) := by decide +kernel
theorem dX12_readName_60 : decode cX12_readName 60 = .ok (.iload_n 1, 1) := by decide +kernel
theorem dX12_readName_61 : decode cX12_readName 61 = .ok (.imul, 1) := by decide +kernel
theorem dX12_readName_62 : decode cX12_readName 62 = .ok (.aload_n 0, 1) := by decide +kernel
theorem dX12_readName_63 : decode cX12_readName 63 = .ok (.getfield 13, 3) := by decide +kernel
theorem dX12_readName_66 : decode cX12_readName 66 = .ok (.bipush 20, 2) := by decide +kernel
theorem dX12_readName_68 : decode cX12_readName 68 = .ok (.invokestatic 154, 3) := by decide +kernel
theorem dX12_readName_71 : decode cX12_readName 71 = .ok (.iload_n 1, 1) := by decide +kernel
theorem dX12_readName_72 : decode cX12_readName 72 = .ok (.iadd, 1) := by decide +kernel
theorem dX12_readName_73 : decode cX12_readName 73 = .ok (.iaload, 1) := by decide +kernel
theorem dX12_readName_74 : decode cX12_readName 74 = .ok (.iadd, 1) := by decide +kernel
theorem dX12_readName_75 : decode cX12_readName 75 = .ok (.aload_n 0, 1) := by decide +kernel
theorem dX12_readName_76 : decode cX12_readName 76 = .ok (.getfield 94, 3) := by decide +kernel
theorem dX12_readName_79 : decode cX12_readName 79 = .ok (.lastore, 1) := by decide +kernel
theorem dX12_readName_80 : decode cX12_readName 80 = .ok (.aload_n 0, 1) := by decide +kernel
theorem dX12_readName_81 : decode cX12_readName 81 = .ok (.invokevirtual 148, 3) := by decide +kernel
theorem dX12_readName_84 : decode cX12_readName 84 = .ok (.iconst 1, 1) := by decide +kernel
theorem dX12_readName_85 : decode cX12_readName 85 = .ok (.ireturn, 1) := by decide +kernel
theorem dX12_readTold_0 : decode cX12_readTold 0 = .ok (.aload_n 0, 1) := by decide +kernel
theorem dX12_readTold_1 : decode cX12_readTold 1 = .ok (.getfield 81, 3) := by decide +kernel
theorem dX12_readTold_4 : decode cX12_readTold 4 = .ok (.iconst 2, 1) := by decide +kernel
theorem dX12_readTold_5 : decode cX12_readTold 5 = .ok (.if_icmp .ne 10, 3) := by decide +kernel
theorem dX12_readTold_8 : decode cX12_readTold 8 = .ok (.aload_n 0, 1) := by decide +kernel
theorem dX12_readTold_9 : decode cX12_readTold 9 = .ok (.invokevirtual 157, 3) := by decide +kernel
theorem dX12_readTold_12 : decode cX12_readTold 12 = .ok (.ifCond .eq 9, 3) := by decide +kernel
theorem dX12_readTold_15 : decode cX12_readTold 15 = .ok (.aload_n 0, 1) := by decide +kernel
theorem dX12_readTold_16 : decode cX12_readTold 16 = .ok (.iconst 1, 1) := by decide +kernel
theorem dX12_readTold_17 : decode cX12_readTold 17 = .ok (.invokevirtual 145, 3) := by decide +kernel
theorem dX12_readTold_20 : decode cX12_readTold 20 = .ok (.ireturn, 1) := by decide +kernel
theorem dX12_readTold_21 : decode cX12_readTold 21 = .ok (.aload_n 0, 1) := by decide +kernel
theorem dX12_readTold_22 : decode cX12_readTold 22 = .ok (.aload_n 0, 1) := by decide +kernel
theorem dX12_readTold_23 : decode cX12_readTold 23 = .ok (.iload_n 1, 1) := by decide +kernel
theorem dX12_readTold_24 : decode cX12_readTold 24 = .ok (.invokevirtual 160, 3) := by decide +kernel
theorem dX12_readTold_27 : decode cX12_readTold 27 = .ok (.putfield 151, 3) := by decide +kernel
theorem dX12_readTold_30 : decode cX12_readTold 30 = .ok (.aload_n 0, 1) := by decide +kernel
theorem dX12_readTold_31 : decode cX12_readTold 31 = .ok (.getfield 151, 3) := by decide +kernel
theorem dX12_readTold_34 : decode cX12_readTold 34 = .ok (.iconst (-1), 1) := by decide +kernel
theorem dX12_readTold_35 : decode cX12_readTold 35 = .ok (.if_icmp .ne 9, 3) := by decide +kernel
theorem dX12_readTold_38 : decode cX12_readTold 38 = .ok (.aload_n 0, 1) := by decide +kernel
theorem dX12_readTold_39 : decode cX12_readTold 39 = .ok (.iconst 3, 1) := by decide +kernel
theorem dX12_readTold_40 : decode cX12_readTold 40 = .ok (.invokevirtual 145, 3) := by decide +kernel
theorem dX12_readTold_43 : decode cX12_readTold 43 = .ok (.ireturn, 1) := by decide +kernel
theorem dX12_readTold_44 : decode cX12_readTold 44 = .ok (.aload_n 0, 1) := by decide +kernel
theorem dX12_readTold_45 : decode cX12_readTold 45 = .ok (.invokevirtual 148, 3) := by decide +kernel
theorem dX12_readTold_48 : decode cX12_readTold 48 = .ok (.iconst 1, 1) := by decide +kernel
theorem dX12_readTold_49 : decode cX12_readTold 49 = .ok (.ireturn, 1) := by decide +kernel
theorem dX12_readInto_0 : decode cX12_readInto 0 = .ok (.aload_n 0, 1) := by decide +kernel
theorem dX12_readInto_1 : decode cX12_readInto 1 = .ok (.iload_n 2, 1) := by decide +kernel
theorem dX12_readInto_2 : decode cX12_readInto 2 = .ok (.iload_n 3, 1) := by decide +kernel
theorem dX12_readInto_3 : decode cX12_readInto 3 = .ok (.invokevirtual 163, 3) := by decide +kernel
theorem dX12_readInto_6 : decode cX12_readInto 6 = .ok (.ifCond .ne 5, 3) := by decide +kernel
theorem dX12_readInto_9 : decode cX12_readInto 9 = .ok (.iconst 0, 1) := by decide +kernel
theorem dX12_readInto_10 : decode cX12_readInto 10 = .ok (.ireturn, 1) := by decide +kernel
theorem dX12_readInto_11 : decode cX12_readInto 11 = .ok (.aload_n 0, 1) := by decide +kernel
theorem dX12_readInto_12 : decode cX12_readInto 12 = .ok (.getfield 13, 3) := by decide +kernel
theorem dX12_readInto_15 : decode cX12_readInto 15 = .ok (.bipush 20, 2) := by decide +kernel
theorem dX12_readInto_17 : decode cX12_readInto 17 = .ok (.invokestatic 154, 3) := by decide +kernel
theorem dX12_readInto_20 : decode cX12_readInto 20 = .ok (.iload_n 1, 1) := by decide +kernel
theorem dX12_readInto_21 : decode cX12_readInto 21 = .ok (.iadd, 1) := by decide +kernel
theorem dX12_readInto_22 : decode cX12_readInto 22 = .ok (.aload_n 0, 1) := by decide +kernel
theorem dX12_readInto_23 : decode cX12_readInto 23 = .ok (.getfield 151, 3) := by decide +kernel
theorem dX12_readInto_26 : decode cX12_readInto 26 = .ok (.iastore, 1) := by decide +kernel
theorem dX12_readInto_27 : decode cX12_readInto 27 = .ok (.iconst 1, 1) := by decide +kernel
theorem dX12_readInto_28 : decode cX12_readInto 28 = .ok (.ireturn, 1) := by decide +kernel
theorem dX12_readPoint_0 : decode cX12_readPoint 0 = .ok (.iload_n 2, 1) := by decide +kernel
theorem dX12_readPoint_1 : decode cX12_readPoint 1 = .ok (.ifCond .ne 7, 3) := by decide +kernel
theorem dX12_readPoint_4 : decode cX12_readPoint 4 = .ok (.iconst 0, 1) := by decide +kernel
theorem dX12_readPoint_5 : decode cX12_readPoint 5 = .ok (.goto 21, 3) := by decide +kernel
theorem dX12_readPoint_8 : decode cX12_readPoint 8 = .ok (.aload_n 0, 1) := by decide +kernel
theorem dX12_readPoint_9 : decode cX12_readPoint 9 = .ok (.getfield 13, 3) := by decide +kernel
theorem dX12_readPoint_12 : decode cX12_readPoint 12 = .ok (.bipush 20, 2) := by decide +kernel
theorem dX12_readPoint_14 : decode cX12_readPoint 14 = .ok (.invokestatic 154, 3) := by decide +kernel
theorem dX12_readPoint_17 : decode cX12_readPoint 17 = .ok (.iload_n 1, 1) := by decide +kernel
theorem dX12_readPoint_18 : decode cX12_readPoint 18 = .ok (.iadd, 1) := by decide +kernel
theorem dX12_readPoint_19 : decode cX12_readPoint 19 = .ok (.iconst 2, 1) := by decide +kernel
theorem dX12_readPoint_20 : decode cX12_readPoint 20 = .ok (.iadd, 1) := by decide +kernel
theorem dX12_readPoint_21 : decode cX12_readPoint 21 = .ok (.iload_n 2, 1) := by decide +kernel
theorem dX12_readPoint_22 : decode cX12_readPoint 22 = .ok (.iadd, 1) := by decide +kernel
theorem dX12_readPoint_23 : decode cX12_readPoint 23 = .ok (.iaload, 1) := by decide +kernel
theorem dX12_readPoint_24 : decode cX12_readPoint 24 = .ok (.iconst 1, 1) := by decide +kernel
theorem dX12_readPoint_25 : decode cX12_readPoint 25 = .ok (.iadd, 1) := by decide +kernel
theorem dX12_readPoint_26 : decode cX12_readPoint 26 = .ok (.istore_n 3, 1) := by decide +kernel
theorem dX12_readPoint_27 : decode cX12_readPoint 27 = .ok (.iload_n 2, 1) := by decide +kernel
theorem dX12_readPoint_28 : decode cX12_readPoint 28 = .ok (.bipush 8, 2) := by decide +kernel
theorem dX12_readPoint_30 : decode cX12_readPoint 30 = .ok (.if_icmp .ne 30, 3) := by decide +kernel
theorem dX12_readPoint_33 : decode cX12_readPoint 33 = .ok (.aload_n 0, 1) := by decide +kernel
theorem dX12_readPoint_34 : decode cX12_readPoint 34 = .ok (.getfield 81, 3) := by decide +kernel
theorem dX12_readPoint_37 : decode cX12_readPoint 37 = .ok (.iconst 3, 1) := by decide +kernel
theorem dX12_readPoint_38 : decode cX12_readPoint 38 = .ok (.if_icmp .ne 22, 3) := by decide +kernel
theorem dX12_readPoint_41 : decode cX12_readPoint 41 = .ok (.aload_n 0, 1) := by decide +kernel
theorem dX12_readPoint_42 : decode cX12_readPoint 42 = .ok (.getfield 98, 3) := by decide +kernel
theorem dX12_readPoint_45 : decode cX12_readPoint 45 = .ok (.iload_n 3, 1) := by decide +kernel
theorem dX12_readPoint_46 : decode cX12_readPoint 46 = .ok (.bipush 95, 2) := by decide +kernel
theorem dX12_readPoint_48 : decode cX12_readPoint 48 = .ok (.invokestatic 65, 3) := by decide +kernel
theorem dX12_readPoint_51 : decode cX12_readPoint 51 = .ok (.ifCond .eq 9, 3) := by decide +kernel
theorem dX12_readPoint_54 : decode cX12_readPoint 54 = .ok (.aload_n 0, 1) := by decide +kernel
theorem dX12_readPoint_55 : decode cX12_readPoint 55 = .ok (.iconst 4, 1) := by decide +kernel
theorem dX12_readPoint_56 : decode cX12_readPoint 56 = .ok (.invokevirtual 145, 3) := by decide +kernel
theorem dX12_readPoint_59 : decode cX12_readPoint 59 = .ok (.ireturn, 1) := by decide +kernel
theorem dX12_readPoint_60 : decode cX12_readPoint 60 = .ok (.iload_n 2, 1) := by decide +kernel
theorem dX12_readPoint_61 : decode cX12_readPoint 61 = .ok (.bipush 8, 2) := by decide +kernel
theorem dX12_readPoint_63 : decode cX12_readPoint 63 = .ok (.if_icmp .ne 11, 3) := by decide +kernel
theorem dX12_readPoint_66 : decode cX12_readPoint 66 = .ok (.aload_n 0, 1) := by decide +kernel
theorem dX12_readPoint_67 : decode cX12_readPoint 67 = .ok (.iload_n 3, 1) := by decide +kernel
theorem dX12_readPoint_68 : decode cX12_readPoint 68 = .ok (.bipush 95, 2) := by decide +kernel
theorem dX12_readPoint_70 : decode cX12_readPoint 70 = .ok (.invokevirtual 163, 3) := by decide +kernel
theorem dX12_readPoint_73 : decode cX12_readPoint 73 = .ok (.ireturn, 1) := by decide +kernel
theorem dX12_readPoint_74 : decode cX12_readPoint 74 = .ok (.aload_n 0, 1) := by decide +kernel
theorem dX12_readPoint_75 : decode cX12_readPoint 75 = .ok (.iload_n 1, 1) := by decide +kernel
theorem dX12_readPoint_76 : decode cX12_readPoint 76 = .ok (.iconst 3, 1) := by decide +kernel
theorem dX12_readPoint_77 : decode cX12_readPoint 77 = .ok (.iadd, 1) := by decide +kernel
theorem dX12_readPoint_78 : decode cX12_readPoint 78 = .ok (.iload_n 2, 1) := by decide +kernel
theorem dX12_readPoint_79 : decode cX12_readPoint 79 = .ok (.iadd, 1) := by decide +kernel
theorem dX12_readPoint_80 : decode cX12_readPoint 80 = .ok (.iload_n 3, 1) := by decide +kernel
theorem dX12_readPoint_81 : decode cX12_readPoint 81 = .ok (.iload_n 2, 1) := by decide +kernel
theorem dX12_readPoint_82 : decode cX12_readPoint 82 = .ok (.ifCond .ne 7, 3) := by decide +kernel
theorem dX12_readPoint_85 : decode cX12_readPoint 85 = .ok (.iconst 0, 1) := by decide +kernel
theorem dX12_readPoint_86 : decode cX12_readPoint 86 = .ok (.goto 5, 3) := by decide +kernel
theorem dX12_readPoint_89 : decode cX12_readPoint 89 = .ok (.bipush 95, 2) := by decide +kernel
theorem dX12_readPoint_91 : decode cX12_readPoint 91 = .ok (.invokevirtual 167, 3) := by decide +kernel
theorem dX12_readPoint_94 : decode cX12_readPoint 94 = .ok (.ifCond .ne 5, 3) := by decide +kernel
theorem dX12_readPoint_97 : decode cX12_readPoint 97 = .ok (.iconst 0, 1) := by decide +kernel
theorem dX12_readPoint_98 : decode cX12_readPoint 98 = .ok (.ireturn, 1) := by decide +kernel
theorem dX12_readPoint_99 : decode cX12_readPoint 99 = .ok (.aload_n 0, 1) := by decide +kernel
theorem dX12_readPoint_100 : decode cX12_readPoint 100 = .ok (.bipush 58, 2) := by decide +kernel
theorem dX12_readPoint_102 : decode cX12_readPoint 102 = .ok (.invokevirtual 170, 3) := by decide +kernel
theorem dX12_readPoint_105 : decode cX12_readPoint 105 = .ok (.ifCond .ne 9, 3) := by decide +kernel
theorem dX12_readPoint_108 : decode cX12_readPoint 108 = .ok (.aload_n 0, 1) := by decide +kernel
theorem dX12_readPoint_109 : decode cX12_readPoint 109 = .ok (.iconst 1, 1) := by decide +kernel
theorem dX12_readPoint_110 : decode cX12_readPoint 110 = .ok (.invokevirtual 145, 3) := by decide +kernel
theorem dX12_readPoint_113 : decode cX12_readPoint 113 = .ok (.ireturn, 1) := by decide +kernel
theorem dX12_readPoint_114 : decode cX12_readPoint 114 = .ok (.aload_n 0, 1) := by decide +kernel
theorem dX12_readPoint_115 : decode cX12_readPoint 115 = .ok (.invokevirtual 148, 3) := by decide +kernel
theorem dX12_readPoint_118 : decode cX12_readPoint 118 = .ok (.aload_n 0, 1) := by decide +kernel
theorem dX12_readPoint_119 : decode cX12_readPoint 119 = .ok (.iload_n 1, 1) := by decide +kernel
theorem dX12_readPoint_120 : decode cX12_readPoint 120 = .ok (.bipush 11, 2) := by decide +kernel
theorem dX12_readPoint_122 : decode cX12_readPoint 122 = .ok (.iadd, 1) := by decide +kernel
theorem dX12_readPoint_123 : decode cX12_readPoint 123 = .ok (.iload_n 2, 1) := by decide +kernel
theorem dX12_readPoint_124 : decode cX12_readPoint 124 = .ok (.iadd, 1) := by decide +kernel
theorem dX12_readPoint_125 : decode cX12_readPoint 125 = .ok (.iload_n 2, 1) := by decide +kernel
theorem dX12_readPoint_126 : decode cX12_readPoint 126 = .ok (.ifCond .ne 7, 3) := by decide +kernel
theorem dX12_readPoint_129 : decode cX12_readPoint 129 = .ok (.iconst 0, 1) := by decide +kernel
theorem dX12_readPoint_130 : decode cX12_readPoint 130 = .ok (.goto 20, 3) := by decide +kernel
theorem dX12_readPoint_133 : decode cX12_readPoint 133 = .ok (.aload_n 0, 1) := by decide +kernel
theorem dX12_readPoint_134 : decode cX12_readPoint 134 = .ok (.getfield 13, 3) := by decide +kernel
theorem dX12_readPoint_137 : decode cX12_readPoint 137 = .ok (.bipush 20, 2) := by decide +kernel
theorem dX12_readPoint_139 : decode cX12_readPoint 139 = .ok (.invokestatic 154, 3) := by decide +kernel
theorem dX12_readPoint_142 : decode cX12_readPoint 142 = .ok (.iload_n 1, 1) := by decide +kernel
theorem dX12_readPoint_143 : decode cX12_readPoint 143 = .ok (.iadd, 1) := by decide +kernel
theorem dX12_readPoint_144 : decode cX12_readPoint 144 = .ok (.bipush 10, 2) := by decide +kernel
theorem dX12_readPoint_146 : decode cX12_readPoint 146 = .ok (.iadd, 1) := by decide +kernel
theorem dX12_readPoint_147 : decode cX12_readPoint 147 = .ok (.iload_n 2, 1) := by decide +kernel
theorem dX12_readPoint_148 : decode cX12_readPoint 148 = .ok (.iadd, 1) := by decide +kernel
theorem dX12_readPoint_149 : decode cX12_readPoint 149 = .ok (.iaload, 1) := by decide +kernel
theorem dX12_readPoint_150 : decode cX12_readPoint 150 = .ok (.ldc 173, 2) := by decide +kernel
theorem dX12_readPoint_152 : decode cX12_readPoint 152 = .ok (.invokevirtual 167, 3) := by decide +kernel
theorem dX12_readPoint_155 : decode cX12_readPoint 155 = .ok (.ireturn, 1) := by decide +kernel
theorem dX12_readFoam_0 : decode cX12_readFoam 0 = .ok (.aload_n 0, 1) := by decide +kernel
theorem dX12_readFoam_1 : decode cX12_readFoam 1 = .ok (.getfield 13, 3) := by decide +kernel
theorem dX12_readFoam_4 : decode cX12_readFoam 4 = .ok (.bipush 20, 2) := by decide +kernel
theorem dX12_readFoam_6 : decode cX12_readFoam 6 = .ok (.invokestatic 154, 3) := by decide +kernel
theorem dX12_readFoam_9 : decode cX12_readFoam 9 = .ok (.iaload, 1) := by decide +kernel
theorem dX12_readFoam_10 : decode cX12_readFoam 10 = .ok (.istore_n 1, 1) := by decide +kernel
theorem dX12_readFoam_11 : decode cX12_readFoam 11 = .ok (.iload_n 1, 1) := by decide +kernel
theorem dX12_readFoam_12 : decode cX12_readFoam 12 = .ok (.bipush 8, 2) := by decide +kernel
theorem dX12_readFoam_14 : decode cX12_readFoam 14 = .ok (.if_icmp .ne 9, 3) := by decide +kernel
theorem dX12_readFoam_17 : decode cX12_readFoam 17 = .ok (.aload_n 0, 1) := by decide +kernel
theorem dX12_readFoam_18 : decode cX12_readFoam 18 = .ok (.iconst 4, 1) := by decide +kernel
theorem dX12_readFoam_19 : decode cX12_readFoam 19 = .ok (.invokevirtual 145, 3) := by decide +kernel
theorem dX12_readFoam_22 : decode cX12_readFoam 22 = .ok (.ireturn, 1) := by decide +kernel
theorem dX12_readFoam_23 : decode cX12_readFoam 23 = .ok (.aload_n 0, 1) := by decide +kernel
theorem dX12_readFoam_24 : decode cX12_readFoam 24 = .ok (.invokevirtual 148, 3) := by decide +kernel
theorem dX12_readFoam_27 : decode cX12_readFoam 27 = .ok (.aload_n 0, 1) := by decide +kernel
theorem dX12_readFoam_28 : decode cX12_readFoam 28 = .ok (.iconst 0, 1) := by decide +kernel
theorem dX12_readFoam_29 : decode cX12_readFoam 29 = .ok (.invokevirtual 174, 3) := by decide +kernel
theorem dX12_readFoam_32 : decode cX12_readFoam 32 = .ok (.ifCond .ne 5, 3) := by decide +kernel
theorem dX12_readFoam_35 : decode cX12_readFoam 35 = .ok (.iconst 0, 1) := by decide +kernel
theorem dX12_readFoam_36 : decode cX12_readFoam 36 = .ok (.ireturn, 1) := by decide +kernel
theorem dX12_readFoam_37 : decode cX12_readFoam 37 = .ok (.iconst 4, 1) := by decide +kernel
theorem dX12_readFoam_38 : decode cX12_readFoam 38 = .ok (.bipush 20, 2) := by decide +kernel
theorem dX12_readFoam_40 : decode cX12_readFoam 40 = .ok (.iload_n 1, 1) := by decide +kernel
theorem dX12_readFoam_41 : decode cX12_readFoam 41 = .ok (.imul, 1) := by decide +kernel
theorem dX12_readFoam_42 : decode cX12_readFoam 42 = .ok (.iadd, 1) := by decide +kernel
theorem dX12_readFoam_43 : decode cX12_readFoam 43 = .ok (.istore_n 2, 1) := by decide +kernel
theorem dX12_readFoam_44 : decode cX12_readFoam 44 = .ok (.iconst 0, 1) := by decide +kernel
theorem dX12_readFoam_45 : decode cX12_readFoam 45 = .ok (.istore_n 3, 1) := by decide +kernel
theorem dX12_readFoam_46 : decode cX12_readFoam 46 = .ok (.iload_n 3, 1) := by decide +kernel
theorem dX12_readFoam_47 : decode cX12_readFoam 47 = .ok (.iconst 2, 1) := by decide +kernel
theorem dX12_readFoam_48 : decode cX12_readFoam 48 = .ok (.if_icmp .lt 11, 3) := by decide +kernel
theorem dX12_readFoam_51 : decode cX12_readFoam 51 = .ok (.aload_n 0, 1) := by decide +kernel
theorem dX12_readFoam_52 : decode cX12_readFoam 52 = .ok (.getfield 81, 3) := by decide +kernel
theorem dX12_readFoam_55 : decode cX12_readFoam 55 = .ok (.iconst 3, 1) := by decide +kernel
theorem dX12_readFoam_56 : decode cX12_readFoam 56 = .ok (.if_icmp .ne 20, 3) := by decide +kernel
theorem dX12_readFoam_59 : decode cX12_readFoam 59 = .ok (.aload_n 0, 1) := by decide +kernel
theorem dX12_readFoam_60 : decode cX12_readFoam 60 = .ok (.iload_n 2, 1) := by decide +kernel
theorem dX12_readFoam_61 : decode cX12_readFoam 61 = .ok (.iload_n 3, 1) := by decide +kernel
theorem dX12_readFoam_62 : decode cX12_readFoam 62 = .ok (.invokevirtual 177, 3) := by decide +kernel
theorem dX12_readFoam_65 : decode cX12_readFoam 65 = .ok (.ifCond .ne 5, 3) := by decide +kernel
theorem dX12_readFoam_68 : decode cX12_readFoam 68 = .ok (.iconst 0, 1) := by decide +kernel
theorem dX12_readFoam_69 : decode cX12_readFoam 69 = .ok (.ireturn, 1) := by decide +kernel
theorem dX12_readFoam_70 : decode cX12_readFoam 70 = .ok (.iinc 3 1, 3) := by decide +kernel
theorem dX12_readFoam_73 : decode cX12_readFoam 73 = .ok (.goto (-27), 3) := by decide +kernel
theorem dX12_readFoam_76 : decode cX12_readFoam 76 = .ok (.aload_n 0, 1) := by decide +kernel
theorem dX12_readFoam_77 : decode cX12_readFoam 77 = .ok (.getfield 13, 3) := by decide +kernel
theorem dX12_readFoam_80 : decode cX12_readFoam 80 = .ok (.bipush 20, 2) := by decide +kernel
theorem dX12_readFoam_82 : decode cX12_readFoam 82 = .ok (.invokestatic 154, 3) := by decide +kernel
theorem dX12_readFoam_85 : decode cX12_readFoam 85 = .ok (.iload_n 2, 1) := by decide +kernel
theorem dX12_readFoam_86 : decode cX12_readFoam 86 = .ok (.iadd, 1) := by decide +kernel
theorem dX12_readFoam_87 : decode cX12_readFoam 87 = .ok (.iload_n 3, 1) := by decide +kernel
theorem dX12_readFoam_88 : decode cX12_readFoam 88 = .ok (.iastore, 1) := by decide +kernel
theorem dX12_readFoam_89 : decode cX12_readFoam 89 = .ok (.aload_n 0, 1) := by decide +kernel
theorem dX12_readFoam_90 : decode cX12_readFoam 90 = .ok (.bipush 107, 2) := by decide +kernel
theorem dX12_readFoam_92 : decode cX12_readFoam 92 = .ok (.bipush 101, 2) := by decide +kernel
theorem dX12_readFoam_94 : decode cX12_readFoam 94 = .ok (.bipush 101, 2) := by decide +kernel
theorem dX12_readFoam_96 : decode cX12_readFoam 96 = .ok (.bipush 112, 2) := by decide +kernel
theorem dX12_readFoam_98 : decode cX12_readFoam 98 = .ok (.bipush 115, 2) := by decide +kernel
theorem dX12_readFoam_100 : decode cX12_readFoam 100 = .ok (.invokestatic 109, 3) := by decide +kernel
theorem dX12_readFoam_103 : decode cX12_readFoam 103 = .ok (.invokevirtual 180, 3) := by decide +kernel
theorem dX12_readFoam_106 : decode cX12_readFoam 106 = .ok (.ifCond .eq 16, 3) := by decide +kernel
theorem dX12_readFoam_109 : decode cX12_readFoam 109 = .ok (.aload_n 0, 1) := by decide +kernel
theorem dX12_readFoam_110 : decode cX12_readFoam 110 = .ok (.iload_n 2, 1) := by decide +kernel
theorem dX12_readFoam_111 : decode cX12_readFoam 111 = .ok (.iconst 1, 1) := by decide +kernel
theorem dX12_readFoam_112 : decode cX12_readFoam 112 = .ok (.iadd, 1) := by decide +kernel
theorem dX12_readFoam_113 : decode cX12_readFoam 113 = .ok (.iconst 0, 1) := by decide +kernel
theorem dX12_readFoam_114 : decode cX12_readFoam 114 = .ok (.bipush 100, 2) := by decide +kernel
theorem dX12_readFoam_116 : decode cX12_readFoam 116 = .ok (.invokevirtual 167, 3) := by decide +kernel
theorem dX12_readFoam_119 : decode cX12_readFoam 119 = .ok (.ifCond .ne 5, 3) := by decide +kernel
theorem dX12_readFoam_122 : decode cX12_readFoam 122 = .ok (.iconst 0, 1) := by decide +kernel
theorem dX12_readFoam_123 : decode cX12_readFoam 123 = .ok (.ireturn, 1) := by decide +kernel
theorem dX12_readFoam_124 : decode cX12_readFoam 124 = .ok (.aload_n 0, 1) := by decide +kernel
theorem dX12_readFoam_125 : decode cX12_readFoam 125 = .ok (.bipush 112, 2) := by decide +kernel
theorem dX12_readFoam_127 : decode cX12_readFoam 127 = .ok (.bipush 114, 2) := by decide +kernel
theorem dX12_readFoam_129 : decode cX12_readFoam 129 = .ok (.bipush 105, 2) := by decide +kernel
theorem dX12_readFoam_131 : decode cX12_readFoam 131 = .ok (.bipush 99, 2) := by decide +kernel
theorem dX12_readFoam_133 : decode cX12_readFoam 133 = .ok (.bipush 101, 2) := by decide +kernel
theorem dX12_readFoam_135 : decode cX12_readFoam 135 = .ok (.invokestatic 109, 3) := by decide +kernel
theorem dX12_readFoam_138 : decode cX12_readFoam 138 = .ok (.invokevirtual 180, 3) := by decide +kernel
theorem dX12_readFoam_141 : decode cX12_readFoam 141 = .ok (.ifCond .eq 16, 3) := by decide +kernel
theorem dX12_readFoam_144 : decode cX12_readFoam 144 = .ok (.aload_n 0, 1) := by decide +kernel
theorem dX12_readFoam_145 : decode cX12_readFoam 145 = .ok (.iload_n 2, 1) := by decide +kernel
theorem dX12_readFoam_146 : decode cX12_readFoam 146 = .ok (.iconst 2, 1) := by decide +kernel
theorem dX12_readFoam_147 : decode cX12_readFoam 147 = .ok (.iadd, 1) := by decide +kernel
theorem dX12_readFoam_148 : decode cX12_readFoam 148 = .ok (.iconst 0, 1) := by decide +kernel
theorem dX12_readFoam_149 : decode cX12_readFoam 149 = .ok (.bipush 100, 2) := by decide +kernel
theorem dX12_readFoam_151 : decode cX12_readFoam 151 = .ok (.invokevirtual 167, 3) := by decide +kernel
theorem dX12_readFoam_154 : decode cX12_readFoam 154 = .ok (.ifCond .ne 5, 3) := by decide +kernel
theorem dX12_readFoam_157 : decode cX12_readFoam 157 = .ok (.iconst 0, 1) := by decide +kernel
theorem dX12_readFoam_158 : decode cX12_readFoam 158 = .ok (.ireturn, 1) := by decide +kernel
theorem dX12_readFoam_159 : decode cX12_readFoam 159 = .ok (.aload_n 0, 1) := by decide +kernel
theorem dX12_readFoam_160 : decode cX12_readFoam 160 = .ok (.getfield 13, 3) := by decide +kernel
theorem dX12_readFoam_163 : decode cX12_readFoam 163 = .ok (.bipush 20, 2) := by decide +kernel
theorem dX12_readFoam_165 : decode cX12_readFoam 165 = .ok (.invokestatic 154, 3) := by decide +kernel
theorem dX12_readFoam_168 : decode cX12_readFoam 168 = .ok (.dup2, 1) := by decide +kernel
theorem dX12_readFoam_169 : decode cX12_readFoam 169 = .ok (.iaload, 1) := by decide +kernel
theorem dX12_readFoam_170 : decode cX12_readFoam 170 = .ok (.iconst 1, 1) := by decide +kernel
theorem dX12_readFoam_171 : decode cX12_readFoam 171 = .ok (.iadd, 1) := by decide +kernel
theorem dX12_readFoam_172 : decode cX12_readFoam 172 = .ok (.iastore, 1) := by decide +kernel
theorem dX12_readFoam_173 : decode cX12_readFoam 173 = .ok (.iconst 1, 1) := by decide +kernel
theorem dX12_readFoam_174 : decode cX12_readFoam 174 = .ok (.ireturn, 1) := by decide +kernel
theorem dX12_readThing_0 : decode cX12_readThing 0 = .ok (.aload_n 0, 1) := by decide +kernel
theorem dX12_readThing_1 : decode cX12_readThing 1 = .ok (.getfield 13, 3) := by decide +kernel
theorem dX12_readThing_4 : decode cX12_readThing 4 = .ok (.bipush 20, 2) := by decide +kernel
theorem dX12_readThing_6 : decode cX12_readThing 6 = .ok (.invokestatic 154, 3) := by decide +kernel
theorem dX12_readThing_9 : decode cX12_readThing 9 = .ok (.iconst 1, 1) := by decide +kernel
theorem dX12_readThing_10 : decode cX12_readThing 10 = .ok (.iadd, 1) := by decide +kernel
theorem dX12_readThing_11 : decode cX12_readThing 11 = .ok (.iaload, 1) := by decide +kernel
theorem dX12_readThing_12 : decode cX12_readThing 12 = .ok (.istore_n 1, 1) := by decide +kernel
theorem dX12_readThing_13 : decode cX12_readThing 13 = .ok (.iload_n 1, 1) := by decide +kernel
theorem dX12_readThing_14 : decode cX12_readThing 14 = .ok (.bipush 8, 2) := by decide +kernel
theorem dX12_readThing_16 : decode cX12_readThing 16 = .ok (.if_icmp .ne 9, 3) := by decide +kernel
theorem dX12_readThing_19 : decode cX12_readThing 19 = .ok (.aload_n 0, 1) := by decide +kernel
theorem dX12_readThing_20 : decode cX12_readThing 20 = .ok (.iconst 4, 1) := by decide +kernel
theorem dX12_readThing_21 : decode cX12_readThing 21 = .ok (.invokevirtual 145, 3) := by decide +kernel
theorem dX12_readThing_24 : decode cX12_readThing 24 = .ok (.ireturn, 1) := by decide +kernel
theorem dX12_readThing_25 : decode cX12_readThing 25 = .ok (.aload_n 0, 1) := by decide +kernel
theorem dX12_readThing_26 : decode cX12_readThing 26 = .ok (.invokevirtual 148, 3) := by decide +kernel
theorem dX12_readThing_29 : decode cX12_readThing 29 = .ok (.aload_n 0, 1) := by decide +kernel
theorem dX12_readThing_30 : decode cX12_readThing 30 = .ok (.iconst 1, 1) := by decide +kernel
theorem dX12_readThing_31 : decode cX12_readThing 31 = .ok (.invokevirtual 174, 3) := by decide +kernel
theorem dX12_readThing_34 : decode cX12_readThing 34 = .ok (.ifCond .ne 5, 3) := by decide +kernel
theorem dX12_readThing_37 : decode cX12_readThing 37 = .ok (.iconst 0, 1) := by decide +kernel
theorem dX12_readThing_38 : decode cX12_readThing 38 = .ok (.ireturn, 1) := by decide +kernel
theorem dX12_readThing_39 : decode cX12_readThing 39 = .ok (.sipush 164, 3) := by decide +kernel
theorem dX12_readThing_42 : decode cX12_readThing 42 = .ok (.bipush 24, 2) := by decide +kernel
theorem dX12_readThing_44 : decode cX12_readThing 44 = .ok (.iload_n 1, 1) := by decide +kernel
theorem dX12_readThing_45 : decode cX12_readThing 45 = .ok (.imul, 1) := by decide +kernel
theorem dX12_readThing_46 : decode cX12_readThing 46 = .ok (.iadd, 1) := by decide +kernel
theorem dX12_readThing_47 : decode cX12_readThing 47 = .ok (.istore_n 2, 1) := by decide +kernel
theorem dX12_readThing_48 : decode cX12_readThing 48 = .ok (.iconst 0, 1) := by decide +kernel
theorem dX12_readThing_49 : decode cX12_readThing 49 = .ok (.istore_n 3, 1) := by decide +kernel
theorem dX12_readThing_50 : decode cX12_readThing 50 = .ok (.iload_n 3, 1) := by decide +kernel
theorem dX12_readThing_51 : decode cX12_readThing 51 = .ok (.bipush 24, 2) := by decide +kernel
theorem dX12_readThing_53 : decode cX12_readThing 53 = .ok (.if_icmp .ge 24, 3) := by decide +kernel
theorem dX12_readThing_56 : decode cX12_readThing 56 = .ok (.aload_n 0, 1) := by decide +kernel
theorem dX12_readThing_57 : decode cX12_readThing 57 = .ok (.getfield 13, 3) := by decide +kernel
theorem dX12_readThing_60 : decode cX12_readThing 60 = .ok (.bipush 20, 2) := by decide +kernel
theorem dX12_readThing_62 : decode cX12_readThing 62 = .ok (.invokestatic 154, 3) := by decide +kernel
theorem dX12_readThing_65 : decode cX12_readThing 65 = .ok (.iload_n 2, 1) := by decide +kernel
theorem dX12_readThing_66 : decode cX12_readThing 66 = .ok (.iadd, 1) := by decide +kernel
theorem dX12_readThing_67 : decode cX12_readThing 67 = .ok (.iload_n 3, 1) := by decide +kernel
theorem dX12_readThing_68 : decode cX12_readThing 68 = .ok (.iadd, 1) := by decide +kernel
theorem dX12_readThing_69 : decode cX12_readThing 69 = .ok (.iconst 0, 1) := by decide +kernel
theorem dX12_readThing_70 : decode cX12_readThing 70 = .ok (.iastore, 1) := by decide +kernel
theorem dX12_readThing_71 : decode cX12_readThing 71 = .ok (.iinc 3 1, 3) := by decide +kernel
theorem dX12_readThing_74 : decode cX12_readThing 74 = .ok (.goto (-24), 3) := by decide +kernel
theorem dX12_readThing_77 : decode cX12_readThing 77 = .ok (.aload_n 0, 1) := by decide +kernel
theorem dX12_readThing_78 : decode cX12_readThing 78 = .ok (.invokestatic 135, 3) := by decide +kernel
theorem dX12_readThing_81 : decode cX12_readThing 81 = .ok (.invokevirtual 180, 3) := by decide +kernel
theorem dX12_readThing_84 : decode cX12_readThing 84 = .ok (.ifCond .eq 33, 3) := by decide +kernel
theorem dX12_readThing_87 : decode cX12_readThing 87 = .ok (.aload_n 0, 1) := by decide +kernel
theorem dX12_readThing_88 : decode cX12_readThing 88 = .ok (.iload_n 2, 1) := by decide +kernel
theorem dX12_readThing_89 : decode cX12_readThing 89 = .ok (.iconst 1, 1) := by decide +kernel
theorem dX12_readThing_90 : decode cX12_readThing 90 = .ok (.ldc 173, 2) := by decide +kernel
theorem dX12_readThing_92 : decode cX12_readThing 92 = .ok (.invokevirtual 167, 3) := by decide +kernel
theorem dX12_readThing_95 : decode cX12_readThing 95 = .ok (.ifCond .eq 22, 3) := by decide +kernel
theorem dX12_readThing_98 : decode cX12_readThing 98 = .ok (.aload_n 0, 1) := by decide +kernel
theorem dX12_readThing_99 : decode cX12_readThing 99 = .ok (.bipush 115, 2) := by decide +kernel
theorem dX12_readThing_101 : decode cX12_readThing 101 = .ok (.bipush 105, 2) := by decide +kernel
theorem dX12_readThing_103 : decode cX12_readThing 103 = .ok (.bipush 122, 2) := by decide +kernel
theorem dX12_readThing_105 : decode cX12_readThing 105 = .ok (.bipush 101, 2) := by decide +kernel
theorem dX12_readThing_107 : decode cX12_readThing 107 = .ok (.iconst 0, 1) := by decide +kernel
theorem dX12_readThing_108 : decode cX12_readThing 108 = .ok (.invokestatic 109, 3) := by decide +kernel
theorem dX12_readThing_111 : decode cX12_readThing 111 = .ok (.invokevirtual 180, 3) := by decide +kernel
theorem dX12_readThing_114 : decode cX12_readThing 114 = .ok (.ifCond .ne 5, 3) := by decide +kernel
theorem dX12_readThing_117 : decode cX12_readThing 117 = .ok (.iconst 0, 1) := by decide +kernel
theorem dX12_readThing_118 : decode cX12_readThing 118 = .ok (.ireturn, 1) := by decide +kernel
theorem dX12_readThing_119 : decode cX12_readThing 119 = .ok (.iconst 1, 1) := by decide +kernel
theorem dX12_readThing_120 : decode cX12_readThing 120 = .ok (.istore_n 3, 1) := by decide +kernel
theorem dX12_readThing_121 : decode cX12_readThing 121 = .ok (.iload_n 3, 1) := by decide +kernel
theorem dX12_readThing_122 : decode cX12_readThing 122 = .ok (.iconst 4, 1) := by decide +kernel
theorem dX12_readThing_123 : decode cX12_readThing 123 = .ok (.if_icmp .ge 25, 3) := by decide +kernel
theorem dX12_readThing_126 : decode cX12_readThing 126 = .ok (.aload_n 0, 1) := by decide +kernel
theorem dX12_readThing_127 : decode cX12_readThing 127 = .ok (.iload_n 2, 1) := by decide +kernel
theorem dX12_readThing_128 : decode cX12_readThing 128 = .ok (.iload_n 3, 1) := by decide +kernel
theorem dX12_readThing_129 : decode cX12_readThing 129 = .ok (.iadd, 1) := by decide +kernel
theorem dX12_readThing_130 : decode cX12_readThing 130 = .ok (.iconst 1, 1) := by decide +kernel
theorem dX12_readThing_131 : decode cX12_readThing 131 = .ok (.sipush 9999, 3) := by decide +kernel
theorem dX12_readThing_134 : decode cX12_readThing 134 = .ok (.invokevirtual 167, 3) := by decide +kernel
theorem dX12_readThing_137 : decode cX12_readThing 137 = .ok (.ifCond .ne 5, 3) := by decide +kernel
theorem dX12_readThing_140 : decode cX12_readThing 140 = .ok (.iconst 0, 1) := by decide +kernel
theorem dX12_readThing_141 : decode cX12_readThing 141 = .ok (.ireturn, 1) := by decide +kernel
theorem dX12_readThing_142 : decode cX12_readThing 142 = .ok (.iinc 3 1, 3) := by decide +kernel
theorem dX12_readThing_145 : decode cX12_readThing 145 = .ok (.goto (-24), 3) := by decide +kernel
theorem dX12_readThing_148 : decode cX12_readThing 148 = .ok (.aload_n 0, 1) := by decide +kernel
theorem dX12_readThing_149 : decode cX12_readThing 149 = .ok (.bipush 109, 2) := by decide +kernel
theorem dX12_readThing_151 : decode cX12_readThing 151 = .ok (.bipush 97, 2) := by decide +kernel
theorem dX12_readThing_153 : decode cX12_readThing 153 = .ok (.bipush 114, 2) := by decide +kernel
theorem dX12_readThing_155 : decode cX12_readThing 155 = .ok (.bipush 107, 2) := by decide +kernel
theorem dX12_readThing_157 : decode cX12_readThing 157 = .ok (.iconst 0, 1) := by decide +kernel
theorem dX12_readThing_158 : decode cX12_readThing 158 = .ok (.invokestatic 109, 3) := by decide +kernel
theorem dX12_readThing_161 : decode cX12_readThing 161 = .ok (.invokevirtual 180, 3) := by decide +kernel
theorem dX12_readThing_164 : decode cX12_readThing 164 = .ok (.ifCond .eq 16, 3) := by decide +kernel
theorem dX12_readThing_167 : decode cX12_readThing 167 = .ok (.aload_n 0, 1) := by decide +kernel
theorem dX12_readThing_168 : decode cX12_readThing 168 = .ok (.iload_n 2, 1) := by decide +kernel
theorem dX12_readThing_169 : decode cX12_readThing 169 = .ok (.iconst 4, 1) := by decide +kernel
theorem dX12_readThing_170 : decode cX12_readThing 170 = .ok (.iadd, 1) := by decide +kernel
theorem dX12_readThing_171 : decode cX12_readThing 171 = .ok (.iconst 1, 1) := by decide +kernel
theorem dX12_readThing_172 : decode cX12_readThing 172 = .ok (.ldc 173, 2) := by decide +kernel
theorem dX12_readThing_174 : decode cX12_readThing 174 = .ok (.invokevirtual 167, 3) := by decide +kernel
theorem dX12_readThing_177 : decode cX12_readThing 177 = .ok (.ifCond .ne 5, 3) := by decide +kernel
theorem dX12_readThing_180 : decode cX12_readThing 180 = .ok (.iconst 0, 1) := by decide +kernel
theorem dX12_readThing_181 : decode cX12_readThing 181 = .ok (.ireturn, 1) := by decide +kernel
theorem dX12_readThing_182 : decode cX12_readThing 182 = .ok (.aload_n 0, 1) := by decide +kernel
theorem dX12_readThing_183 : decode cX12_readThing 183 = .ok (.getfield 13, 3) := by decide +kernel
theorem dX12_readThing_186 : decode cX12_readThing 186 = .ok (.bipush 20, 2) := by decide +kernel
theorem dX12_readThing_188 : decode cX12_readThing 188 = .ok (.invokestatic 154, 3) := by decide +kernel
theorem dX12_readThing_191 : decode cX12_readThing 191 = .ok (.iconst 1, 1) := by decide +kernel
theorem dX12_readThing_192 : decode cX12_readThing 192 = .ok (.iadd, 1) := by decide +kernel
theorem dX12_readThing_193 : decode cX12_readThing 193 = .ok (.dup2, 1) := by decide +kernel
theorem dX12_readThing_194 : decode cX12_readThing 194 = .ok (.iaload, 1) := by decide +kernel
theorem dX12_readThing_195 : decode cX12_readThing 195 = .ok (.iconst 1, 1) := by decide +kernel
theorem dX12_readThing_196 : decode cX12_readThing 196 = .ok (.iadd, 1) := by decide +kernel
theorem dX12_readThing_197 : decode cX12_readThing 197 = .ok (.iastore, 1) := by decide +kernel
theorem dX12_readThing_198 : decode cX12_readThing 198 = .ok (.iconst 1, 1) := by decide +kernel
theorem dX12_readThing_199 : decode cX12_readThing 199 = .ok (.ireturn, 1) := by decide +kernel
theorem dX12_readBox_0 : decode cX12_readBox 0 = .ok (.aload_n 0, 1) := by decide +kernel
theorem dX12_readBox_1 : decode cX12_readBox 1 = .ok (.getfield 13, 3) := by decide +kernel
theorem dX12_readBox_4 : decode cX12_readBox 4 = .ok (.bipush 20, 2) := by decide +kernel
theorem dX12_readBox_6 : decode cX12_readBox 6 = .ok (.invokestatic 154, 3) := by decide +kernel
theorem dX12_readBox_9 : decode cX12_readBox 9 = .ok (.iconst 2, 1) := by decide +kernel
theorem dX12_readBox_10 : decode cX12_readBox 10 = .ok (.iadd, 1) := by decide +kernel
theorem dX12_readBox_11 : decode cX12_readBox 11 = .ok (.iaload, 1) := by decide +kernel
theorem dX12_readBox_12 : decode cX12_readBox 12 = .ok (.istore_n 1, 1) := by decide +kernel
theorem dX12_readBox_13 : decode cX12_readBox 13 = .ok (.iload_n 1, 1) := by decide +kernel
theorem dX12_readBox_14 : decode cX12_readBox 14 = .ok (.bipush 8, 2) := by decide +kernel
theorem dX12_readBox_16 : decode cX12_readBox 16 = .ok (.if_icmp .ne 9, 3) := by decide +kernel
theorem dX12_readBox_19 : decode cX12_readBox 19 = .ok (.aload_n 0, 1) := by decide +kernel
theorem dX12_readBox_20 : decode cX12_readBox 20 = .ok (.iconst 4, 1) := by decide +kernel
theorem dX12_readBox_21 : decode cX12_readBox 21 = .ok (.invokevirtual 145, 3) := by decide +kernel
theorem dX12_readBox_24 : decode cX12_readBox 24 = .ok (.ireturn, 1) := by decide +kernel
theorem dX12_readBox_25 : decode cX12_readBox 25 = .ok (.aload_n 0, 1) := by decide +kernel
theorem dX12_readBox_26 : decode cX12_readBox 26 = .ok (.invokevirtual 148, 3) := by decide +kernel
theorem dX12_readBox_29 : decode cX12_readBox 29 = .ok (.aload_n 0, 1) := by decide +kernel
theorem dX12_readBox_30 : decode cX12_readBox 30 = .ok (.iconst 2, 1) := by decide +kernel
theorem dX12_readBox_31 : decode cX12_readBox 31 = .ok (.invokevirtual 174, 3) := by decide +kernel
theorem dX12_readBox_34 : decode cX12_readBox 34 = .ok (.ifCond .eq 22, 3) := by decide +kernel
theorem dX12_readBox_37 : decode cX12_readBox 37 = .ok (.aload_n 0, 1) := by decide +kernel
theorem dX12_readBox_38 : decode cX12_readBox 38 = .ok (.bipush 114, 2) := by decide +kernel
theorem dX12_readBox_40 : decode cX12_readBox 40 = .ok (.bipush 111, 2) := by decide +kernel
theorem dX12_readBox_42 : decode cX12_readBox 42 = .ok (.bipush 111, 2) := by decide +kernel
theorem dX12_readBox_44 : decode cX12_readBox 44 = .ok (.bipush 109, 2) := by decide +kernel
theorem dX12_readBox_46 : decode cX12_readBox 46 = .ok (.iconst 0, 1) := by decide +kernel
theorem dX12_readBox_47 : decode cX12_readBox 47 = .ok (.invokestatic 109, 3) := by decide +kernel
theorem dX12_readBox_50 : decode cX12_readBox 50 = .ok (.invokevirtual 180, 3) := by decide +kernel
theorem dX12_readBox_53 : decode cX12_readBox 53 = .ok (.ifCond .ne 5, 3) := by decide +kernel
theorem dX12_readBox_56 : decode cX12_readBox 56 = .ok (.iconst 0, 1) := by decide +kernel
theorem dX12_readBox_57 : decode cX12_readBox 57 = .ok (.ireturn, 1) := by decide +kernel
theorem dX12_readBox_58 : decode cX12_readBox 58 = .ok (.sipush 356, 3) := by decide +kernel
theorem dX12_readBox_61 : decode cX12_readBox 61 = .ok (.bipush 6, 2) := by decide +kernel
theorem dX12_readBox_63 : decode cX12_readBox 63 = .ok (.iload_n 1, 1) := by decide +kernel
theorem dX12_readBox_64 : decode cX12_readBox 64 = .ok (.imul, 1) := by decide +kernel
theorem dX12_readBox_65 : decode cX12_readBox 65 = .ok (.iadd, 1) := by decide +kernel
theorem dX12_readBox_66 : decode cX12_readBox 66 = .ok (.istore_n 2, 1) := by decide +kernel
theorem dX12_readBox_67 : decode cX12_readBox 67 = .ok (.iconst 0, 1) := by decide +kernel
theorem dX12_readBox_68 : decode cX12_readBox 68 = .ok (.istore_n 3, 1) := by decide +kernel
theorem dX12_readBox_69 : decode cX12_readBox 69 = .ok (.iload_n 3, 1) := by decide +kernel
theorem dX12_readBox_70 : decode cX12_readBox 70 = .ok (.iconst 3, 1) := by decide +kernel
theorem dX12_readBox_71 : decode cX12_readBox 71 = .ok (.if_icmp .ge 25, 3) := by decide +kernel
theorem dX12_readBox_74 : decode cX12_readBox 74 = .ok (.aload_n 0, 1) := by decide +kernel
theorem dX12_readBox_75 : decode cX12_readBox 75 = .ok (.iload_n 2, 1) := by decide +kernel
theorem dX12_readBox_76 : decode cX12_readBox 76 = .ok (.iload_n 3, 1) := by decide +kernel
theorem dX12_readBox_77 : decode cX12_readBox 77 = .ok (.iadd, 1) := by decide +kernel
theorem dX12_readBox_78 : decode cX12_readBox 78 = .ok (.iconst 1, 1) := by decide +kernel
theorem dX12_readBox_79 : decode cX12_readBox 79 = .ok (.sipush 9999, 3) := by decide +kernel
theorem dX12_readBox_82 : decode cX12_readBox 82 = .ok (.invokevirtual 167, 3) := by decide +kernel
theorem dX12_readBox_85 : decode cX12_readBox 85 = .ok (.ifCond .ne 5, 3) := by decide +kernel
theorem dX12_readBox_88 : decode cX12_readBox 88 = .ok (.iconst 0, 1) := by decide +kernel
theorem dX12_readBox_89 : decode cX12_readBox 89 = .ok (.ireturn, 1) := by decide +kernel
theorem dX12_readBox_90 : decode cX12_readBox 90 = .ok (.iinc 3 1, 3) := by decide +kernel
theorem dX12_readBox_93 : decode cX12_readBox 93 = .ok (.goto (-24), 3) := by decide +kernel
theorem dX12_readBox_96 : decode cX12_readBox 96 = .ok (.aload_n 0, 1) := by decide +kernel
theorem dX12_readBox_97 : decode cX12_readBox 97 = .ok (.bipush 112, 2) := by decide +kernel
theorem dX12_readBox_99 : decode cX12_readBox 99 = .ok (.bipush 114, 2) := by decide +kernel
theorem dX12_readBox_101 : decode cX12_readBox 101 = .ok (.bipush 105, 2) := by decide +kernel
theorem dX12_readBox_103 : decode cX12_readBox 103 = .ok (.bipush 99, 2) := by decide +kernel
theorem dX12_readBox_105 : decode cX12_readBox 105 = .ok (.bipush 101, 2) := by decide +kernel
theorem dX12_readBox_107 : decode cX12_readBox 107 = .ok (.invokestatic 109, 3) := by decide +kernel
theorem dX12_readBox_110 : decode cX12_readBox 110 = .ok (.invokevirtual 180, 3) := by decide +kernel
theorem dX12_readBox_113 : decode cX12_readBox 113 = .ok (.ifCond .eq 17, 3) := by decide +kernel
theorem dX12_readBox_116 : decode cX12_readBox 116 = .ok (.aload_n 0, 1) := by decide +kernel
theorem dX12_readBox_117 : decode cX12_readBox 117 = .ok (.iload_n 2, 1) := by decide +kernel
theorem dX12_readBox_118 : decode cX12_readBox 118 = .ok (.iconst 3, 1) := by decide +kernel
theorem dX12_readBox_119 : decode cX12_readBox 119 = .ok (.iadd, 1) := by decide +kernel
theorem dX12_readBox_120 : decode cX12_readBox 120 = .ok (.iconst 0, 1) := by decide +kernel
theorem dX12_readBox_121 : decode cX12_readBox 121 = .ok (.sipush 10000, 3) := by decide +kernel
theorem dX12_readBox_124 : decode cX12_readBox 124 = .ok (.invokevirtual 167, 3) := by decide +kernel
theorem dX12_readBox_127 : decode cX12_readBox 127 = .ok (.ifCond .ne 5, 3) := by decide +kernel
theorem dX12_readBox_130 : decode cX12_readBox 130 = .ok (.iconst 0, 1) := by decide +kernel
theorem dX12_readBox_131 : decode cX12_readBox 131 = .ok (.ireturn, 1) := by decide +kernel
theorem dX12_readBox_132 : decode cX12_readBox 132 = .ok (.aload_n 0, 1) := by decide +kernel
theorem dX12_readBox_133 : decode cX12_readBox 133 = .ok (.bipush 98, 2) := by decide +kernel
theorem dX12_readBox_135 : decode cX12_readBox 135 = .ok (.bipush 101, 2) := by decide +kernel
theorem dX12_readBox_137 : decode cX12_readBox 137 = .ok (.bipush 97, 2) := by decide +kernel
theorem dX12_readBox_139 : decode cX12_readBox 139 = .ok (.bipush 114, 2) := by decide +kernel
theorem dX12_readBox_141 : decode cX12_readBox 141 = .ok (.bipush 115, 2) := by decide +kernel
theorem dX12_readBox_143 : decode cX12_readBox 143 = .ok (.invokestatic 109, 3) := by decide +kernel
theorem dX12_readBox_146 : decode cX12_readBox 146 = .ok (.invokevirtual 180, 3) := by decide +kernel
theorem dX12_readBox_149 : decode cX12_readBox 149 = .ok (.ifCond .eq 16, 3) := by decide +kernel
theorem dX12_readBox_152 : decode cX12_readBox 152 = .ok (.aload_n 0, 1) := by decide +kernel
theorem dX12_readBox_153 : decode cX12_readBox 153 = .ok (.iload_n 2, 1) := by decide +kernel
theorem dX12_readBox_154 : decode cX12_readBox 154 = .ok (.iconst 4, 1) := by decide +kernel
theorem dX12_readBox_155 : decode cX12_readBox 155 = .ok (.iadd, 1) := by decide +kernel
theorem dX12_readBox_156 : decode cX12_readBox 156 = .ok (.iconst 1, 1) := by decide +kernel
theorem dX12_readBox_157 : decode cX12_readBox 157 = .ok (.ldc 173, 2) := by decide +kernel
theorem dX12_readBox_159 : decode cX12_readBox 159 = .ok (.invokevirtual 167, 3) := by decide +kernel
theorem dX12_readBox_162 : decode cX12_readBox 162 = .ok (.ifCond .ne 5, 3) := by decide +kernel
theorem dX12_readBox_165 : decode cX12_readBox 165 = .ok (.iconst 0, 1) := by decide +kernel
theorem dX12_readBox_166 : decode cX12_readBox 166 = .ok (.ireturn, 1) := by decide +kernel
theorem dX12_readBox_167 : decode cX12_readBox 167 = .ok (.aload_n 0, 1) := by decide +kernel
theorem dX12_readBox_168 : decode cX12_readBox 168 = .ok (.getfield 13, 3) := by decide +kernel
theorem dX12_readBox_171 : decode cX12_readBox 171 = .ok (.bipush 20, 2) := by decide +kernel
theorem dX12_readBox_173 : decode cX12_readBox 173 = .ok (.invokestatic 154, 3) := by decide +kernel
theorem dX12_readBox_176 : decode cX12_readBox 176 = .ok (.iconst 2, 1) := by decide +kernel
theorem dX12_readBox_177 : decode cX12_readBox 177 = .ok (.iadd, 1) := by decide +kernel
theorem dX12_readBox_178 : decode cX12_readBox 178 = .ok (.dup2, 1) := by decide +kernel
theorem dX12_readBox_179 : decode cX12_readBox 179 = .ok (.iaload, 1) := by decide +kernel
theorem dX12_readBox_180 : decode cX12_readBox 180 = .ok (.iconst 1, 1) := by decide +kernel
theorem dX12_readBox_181 : decode cX12_readBox 181 = .ok (.iadd, 1) := by decide +kernel
theorem dX12_readBox_182 : decode cX12_readBox 182 = .ok (.iastore, 1) := by decide +kernel
theorem dX12_readBox_183 : decode cX12_readBox 183 = .ok (.iconst 1, 1) := by decide +kernel
theorem dX12_readBox_184 : decode cX12_readBox 184 = .ok (.ireturn, 1) := by decide +kernel
theorem dX12_readPad_0 : decode cX12_readPad 0 = .ok (.aload_n 0, 1) := by decide +kernel
theorem dX12_readPad_1 : decode cX12_readPad 1 = .ok (.invokevirtual 148, 3) := by decide +kernel
theorem dX12_readPad_4 : decode cX12_readPad 4 = .ok (.aload_n 0, 1) := by decide +kernel
theorem dX12_readPad_5 : decode cX12_readPad 5 = .ok (.iconst 1, 1) := by decide +kernel
theorem dX12_readPad_6 : decode cX12_readPad 6 = .ok (.invokevirtual 183, 3) := by decide +kernel
theorem dX12_readPad_9 : decode cX12_readPad 9 = .ok (.ifCond .ne 5, 3) := by decide +kernel
theorem dX12_readPad_12 : decode cX12_readPad 12 = .ok (.iconst 0, 1) := by decide +kernel
theorem dX12_readPad_13 : decode cX12_readPad 13 = .ok (.ireturn, 1) := by decide +kernel
theorem dX12_readPad_14 : decode cX12_readPad 14 = .ok (.sipush 164, 3) := by decide +kernel
theorem dX12_readPad_17 : decode cX12_readPad 17 = .ok (.bipush 24, 2) := by decide +kernel
theorem dX12_readPad_19 : decode cX12_readPad 19 = .ok (.aload_n 0, 1) := by decide +kernel
theorem dX12_readPad_20 : decode cX12_readPad 20 = .ok (.getfield 151, 3) := by decide +kernel
theorem dX12_readPad_23 : decode cX12_readPad 23 = .ok (.imul, 1) := by decide +kernel
theorem dX12_readPad_24 : decode cX12_readPad 24 = .ok (.iadd, 1) := by decide +kernel
theorem dX12_readPad_25 : decode cX12_readPad 25 = .ok (.istore_n 1, 1) := by decide +kernel
theorem dX12_readPad_26 : decode cX12_readPad 26 = .ok (.aload_n 0, 1) := by decide +kernel
theorem dX12_readPad_27 : decode cX12_readPad 27 = .ok (.bipush 115, 2) := by decide +kernel
theorem dX12_readPad_29 : decode cX12_readPad 29 = .ok (.bipush 105, 2) := by decide +kernel
theorem dX12_readPad_31 : decode cX12_readPad 31 = .ok (.bipush 100, 2) := by decide +kernel
theorem dX12_readPad_33 : decode cX12_readPad 33 = .ok (.bipush 101, 2) := by decide +kernel
theorem dX12_readPad_35 : decode cX12_readPad 35 = .ok (.iconst 0, 1) := by decide +kernel
theorem dX12_readPad_36 : decode cX12_readPad 36 = .ok (.invokestatic 109, 3) := by decide +kernel
theorem dX12_readPad_39 : decode cX12_readPad 39 = .ok (.invokevirtual 180, 3) := by decide +kernel
theorem dX12_readPad_42 : decode cX12_readPad 42 = .ok (.ifCond .ne 5, 3) := by decide +kernel
theorem dX12_readPad_45 : decode cX12_readPad 45 = .ok (.iconst 0, 1) := by decide +kernel
theorem dX12_readPad_46 : decode cX12_readPad 46 = .ok (.ireturn, 1) := by decide +kernel
theorem dX12_readPad_47 : decode cX12_readPad 47 = .ok (.aload_n 0, 1) := by decide +kernel
theorem dX12_readPad_48 : decode cX12_readPad 48 = .ok (.getfield 81, 3) := by decide +kernel
theorem dX12_readPad_51 : decode cX12_readPad 51 = .ok (.iconst 3, 1) := by decide +kernel
theorem dX12_readPad_52 : decode cX12_readPad 52 = .ok (.if_icmp .eq 9, 3) := by decide +kernel
theorem dX12_readPad_55 : decode cX12_readPad 55 = .ok (.aload_n 0, 1) := by decide +kernel
theorem dX12_readPad_56 : decode cX12_readPad 56 = .ok (.iconst 1, 1) := by decide +kernel
theorem dX12_readPad_57 : decode cX12_readPad 57 = .ok (.invokevirtual 145, 3) := by decide +kernel
theorem dX12_readPad_60 : decode cX12_readPad 60 = .ok (.ireturn, 1) := by decide +kernel
theorem dX12_readPad_61 : decode cX12_readPad 61 = .ok (.aload_n 0, 1) := by decide +kernel
theorem dX12_readPad_62 : decode cX12_readPad 62 = .ok (.getfield 98, 3) := by decide +kernel
theorem dX12_readPad_65 : decode cX12_readPad 65 = .ok (.iconst 5, 1) := by decide +kernel
theorem dX12_readPad_66 : decode cX12_readPad 66 = .ok (.if_icmp .le 9, 3) := by decide +kernel
theorem dX12_readPad_69 : decode cX12_readPad 69 = .ok (.aload_n 0, 1) := by decide +kernel
theorem dX12_readPad_70 : decode cX12_readPad 70 = .ok (.iconst 2, 1) := by decide +kernel
theorem dX12_readPad_71 : decode cX12_readPad 71 = .ok (.invokevirtual 145, 3) := by decide +kernel
theorem dX12_readPad_74 : decode cX12_readPad 74 = .ok (.ireturn, 1) := by decide +kernel
theorem dX12_readPad_75 : decode cX12_readPad 75 = .ok (.iload_n 1, 1) := by decide +kernel
theorem dX12_readPad_76 : decode cX12_readPad 76 = .ok (.iconst 5, 1) := by decide +kernel
theorem dX12_readPad_77 : decode cX12_readPad 77 = .ok (.iadd, 1) := by decide +kernel
theorem dX12_readPad_78 : decode cX12_readPad 78 = .ok (.iconst 3, 1) := by decide +kernel
theorem dX12_readPad_79 : decode cX12_readPad 79 = .ok (.aload_n 0, 1) := by decide +kernel
theorem dX12_readPad_80 : decode cX12_readPad 80 = .ok (.getfield 98, 3) := by decide +kernel
theorem dX12_readPad_83 : decode cX12_readPad 83 = .ok (.imul, 1) := by decide +kernel
theorem dX12_readPad_84 : decode cX12_readPad 84 = .ok (.iadd, 1) := by decide +kernel
theorem dX12_readPad_85 : decode cX12_readPad 85 = .ok (.istore_n 2, 1) := by decide +kernel
theorem dX12_readPad_86 : decode cX12_readPad 86 = .ok (.aload_n 0, 1) := by decide +kernel
theorem dX12_readPad_87 : decode cX12_readPad 87 = .ok (.getfield 13, 3) := by decide +kernel
theorem dX12_readPad_90 : decode cX12_readPad 90 = .ok (.bipush 20, 2) := by decide +kernel
theorem dX12_readPad_92 : decode cX12_readPad 92 = .ok (.invokestatic 154, 3) := by decide +kernel
theorem dX12_readPad_95 : decode cX12_readPad 95 = .ok (.iload_n 2, 1) := by decide +kernel
theorem dX12_readPad_96 : decode cX12_readPad 96 = .ok (.iadd, 1) := by decide +kernel
theorem dX12_readPad_97 : decode cX12_readPad 97 = .ok (.iaload, 1) := by decide +kernel
theorem dX12_readPad_98 : decode cX12_readPad 98 = .ok (.ifCond .le 9, 3) := by decide +kernel
theorem dX12_readPad_101 : decode cX12_readPad 101 = .ok (.aload_n 0, 1) := by decide +kernel
theorem dX12_readPad_102 : decode cX12_readPad 102 = .ok (.iconst 4, 1) := by decide +kernel
theorem dX12_readPad_103 : decode cX12_readPad 103 = .ok (.invokevirtual 145, 3) := by decide +kernel
theorem dX12_readPad_106 : decode cX12_readPad 106 = .ok (.ireturn, 1) := by decide +kernel
theorem dX12_readPad_107 : decode cX12_readPad 107 = .ok (.aload_n 0, 1) := by decide +kernel
theorem dX12_readPad_108 : decode cX12_readPad 108 = .ok (.invokevirtual 148, 3) := by decide +kernel
theorem dX12_readPad_111 : decode cX12_readPad 111 = .ok (.aload_n 0, 1) := by decide +kernel
theorem dX12_readPad_112 : decode cX12_readPad 112 = .ok (.iconst 0, 1) := by decide +kernel
theorem dX12_readPad_113 : decode cX12_readPad 113 = .ok (.invokevirtual 183, 3) := by decide +kernel
theorem dX12_readPad_116 : decode cX12_readPad 116 = .ok (.ifCond .ne 5, 3) := by decide +kernel
theorem dX12_readPad_119 : decode cX12_readPad 119 = .ok (.iconst 0, 1) := by decide +kernel
theorem dX12_readPad_120 : decode cX12_readPad 120 = .ok (.ireturn, 1) := by decide +kernel
theorem dX12_readPad_121 : decode cX12_readPad 121 = .ok (.aload_n 0, 1) := by decide +kernel
theorem dX12_readPad_122 : decode cX12_readPad 122 = .ok (.getfield 13, 3) := by decide +kernel
theorem dX12_readPad_125 : decode cX12_readPad 125 = .ok (.bipush 20, 2) := by decide +kernel
theorem dX12_readPad_127 : decode cX12_readPad 127 = .ok (.invokestatic 154, 3) := by decide +kernel
theorem dX12_readPad_130 : decode cX12_readPad 130 = .ok (.iload_n 2, 1) := by decide +kernel
theorem dX12_readPad_131 : decode cX12_readPad 131 = .ok (.iadd, 1) := by decide +kernel
theorem dX12_readPad_132 : decode cX12_readPad 132 = .ok (.aload_n 0, 1) := by decide +kernel
theorem dX12_readPad_133 : decode cX12_readPad 133 = .ok (.getfield 151, 3) := by decide +kernel
theorem dX12_readPad_136 : decode cX12_readPad 136 = .ok (.iconst 1, 1) := by decide +kernel
theorem dX12_readPad_137 : decode cX12_readPad 137 = .ok (.iadd, 1) := by decide +kernel
theorem dX12_readPad_138 : decode cX12_readPad 138 = .ok (.iastore, 1) := by decide +kernel
theorem dX12_readPad_139 : decode cX12_readPad 139 = .ok (.aload_n 0, 1) := by decide +kernel
theorem dX12_readPad_140 : decode cX12_readPad 140 = .ok (.bipush 116, 2) := by decide +kernel
theorem dX12_readPad_142 : decode cX12_readPad 142 = .ok (.bipush 104, 2) := by decide +kernel
theorem dX12_readPad_144 : decode cX12_readPad 144 = .ok (.bipush 105, 2) := by decide +kernel
theorem dX12_readPad_146 : decode cX12_readPad 146 = .ok (.bipush 99, 2) := by decide +kernel
theorem dX12_readPad_148 : decode cX12_readPad 148 = .ok (.bipush 107, 2) := by decide +kernel
theorem dX12_readPad_150 : decode cX12_readPad 150 = .ok (.invokestatic 109, 3) := by decide +kernel
theorem dX12_readPad_153 : decode cX12_readPad 153 = .ok (.invokevirtual 180, 3) := by decide +kernel
theorem dX12_readPad_156 : decode cX12_readPad 156 = .ok (.ifCond .eq 18, 3) := by decide +kernel
theorem dX12_readPad_159 : decode cX12_readPad 159 = .ok (.aload_n 0, 1) := by decide +kernel
theorem dX12_readPad_160 : decode cX12_readPad 160 = .ok (.iload_n 2, 1) := by decide +kernel
theorem dX12_readPad_161 : decode cX12_readPad 161 = .ok (.iconst 1, 1) := by decide +kernel
theorem dX12_readPad_162 : decode cX12_readPad 162 = .ok (.iadd, 1) := by decide +kernel
theorem dX12_readPad_163 : decode cX12_readPad 163 = .ok (.bipush 10, 2) := by decide +kernel
theorem dX12_readPad_165 : decode cX12_readPad 165 = .ok (.sipush 600, 3) := by decide +kernel
theorem dX12_readPad_168 : decode cX12_readPad 168 = .ok (.invokevirtual 167, 3) := by decide +kernel
theorem dX12_readPad_171 : decode cX12_readPad 171 = .ok (.ifCond .ne 5, 3) := by decide +kernel
theorem dX12_readPad_174 : decode cX12_readPad 174 = .ok (.iconst 0, 1) := by decide +kernel
theorem dX12_readPad_175 : decode cX12_readPad 175 = .ok (.ireturn, 1) := by decide +kernel
theorem dX12_readPad_176 : decode cX12_readPad 176 = .ok (.aload_n 0, 1) := by decide +kernel
theorem dX12_readPad_177 : decode cX12_readPad 177 = .ok (.bipush 97, 2) := by decide +kernel
theorem dX12_readPad_179 : decode cX12_readPad 179 = .ok (.bipush 114, 2) := by decide +kernel
theorem dX12_readPad_181 : decode cX12_readPad 181 = .ok (.bipush 101, 2) := by decide +kernel
theorem dX12_readPad_183 : decode cX12_readPad 183 = .ok (.bipush 97, 2) := by decide +kernel
theorem dX12_readPad_185 : decode cX12_readPad 185 = .ok (.iconst 0, 1) := by decide +kernel
theorem dX12_readPad_186 : decode cX12_readPad 186 = .ok (.invokestatic 109, 3) := by decide +kernel
theorem dX12_readPad_189 : decode cX12_readPad 189 = .ok (.invokevirtual 180, 3) := by decide +kernel
theorem dX12_readPad_192 : decode cX12_readPad 192 = .ok (.ifCond .eq 21, 3) := by decide +kernel
theorem dX12_readPad_195 : decode cX12_readPad 195 = .ok (.aload_n 0, 1) := by decide +kernel
theorem dX12_readPad_196 : decode cX12_readPad 196 = .ok (.iload_n 2, 1) := by decide +kernel
theorem dX12_readPad_197 : decode cX12_readPad 197 = .ok (.iconst 2, 1) := by decide +kernel
theorem dX12_readPad_198 : decode cX12_readPad 198 = .ok (.iadd, 1) := by decide +kernel
theorem dX12_readPad_199 : decode cX12_readPad 199 = .ok (.iconst 1, 1) := by decide +kernel
theorem dX12_readPad_200 : decode cX12_readPad 200 = .ok (.sipush 2000, 3) := by decide +kernel
theorem dX12_readPad_203 : decode cX12_readPad 203 = .ok (.invokevirtual 167, 3) := by decide +kernel
theorem dX12_readPad_206 : decode cX12_readPad 206 = .ok (.ifCond .eq 7, 3) := by decide +kernel
theorem dX12_readPad_209 : decode cX12_readPad 209 = .ok (.iconst 1, 1) := by decide +kernel
theorem dX12_readPad_210 : decode cX12_readPad 210 = .ok (.goto 4, 3) := by decide +kernel
theorem dX12_readPad_213 : decode cX12_readPad 213 = .ok (.iconst 0, 1) := by decide +kernel
theorem dX12_readPad_214 : decode cX12_readPad 214 = .ok (.ireturn, 1) := by decide +kernel
theorem dX12_readDrop_0 : decode cX12_readDrop 0 = .ok (.aload_n 0, 1) := by decide +kernel
theorem dX12_readDrop_1 : decode cX12_readDrop 1 = .ok (.getfield 13, 3) := by decide +kernel
theorem dX12_readDrop_4 : decode cX12_readDrop 4 = .ok (.bipush 20, 2) := by decide +kernel
theorem dX12_readDrop_6 : decode cX12_readDrop 6 = .ok (.invokestatic 154, 3) := by decide +kernel
theorem dX12_readDrop_9 : decode cX12_readDrop 9 = .ok (.iconst 3, 1) := by decide +kernel
theorem dX12_readDrop_10 : decode cX12_readDrop 10 = .ok (.iadd, 1) := by decide +kernel
theorem dX12_readDrop_11 : decode cX12_readDrop 11 = .ok (.iaload, 1) := by decide +kernel
theorem dX12_readDrop_12 : decode cX12_readDrop 12 = .ok (.istore_n 1, 1) := by decide +kernel
theorem dX12_readDrop_13 : decode cX12_readDrop 13 = .ok (.iload_n 1, 1) := by decide +kernel
theorem dX12_readDrop_14 : decode cX12_readDrop 14 = .ok (.bipush 20, 2) := by decide +kernel
theorem dX12_readDrop_16 : decode cX12_readDrop 16 = .ok (.if_icmp .ne 9, 3) := by decide +kernel
theorem dX12_readDrop_19 : decode cX12_readDrop 19 = .ok (.aload_n 0, 1) := by decide +kernel
theorem dX12_readDrop_20 : decode cX12_readDrop 20 = .ok (.iconst 4, 1) := by decide +kernel
theorem dX12_readDrop_21 : decode cX12_readDrop 21 = .ok (.invokevirtual 145, 3) := by decide +kernel
theorem dX12_readDrop_24 : decode cX12_readDrop 24 = .ok (.ireturn, 1) := by decide +kernel
theorem dX12_readDrop_25 : decode cX12_readDrop 25 = .ok (.aload_n 0, 1) := by decide +kernel
theorem dX12_readDrop_26 : decode cX12_readDrop 26 = .ok (.invokevirtual 148, 3) := by decide +kernel
theorem dX12_readDrop_29 : decode cX12_readDrop 29 = .ok (.aload_n 0, 1) := by decide +kernel
theorem dX12_readDrop_30 : decode cX12_readDrop 30 = .ok (.iconst 1, 1) := by decide +kernel
theorem dX12_readDrop_31 : decode cX12_readDrop 31 = .ok (.invokevirtual 183, 3) := by decide +kernel
theorem dX12_readDrop_34 : decode cX12_readDrop 34 = .ok (.ifCond .ne 5, 3) := by decide +kernel
theorem dX12_readDrop_37 : decode cX12_readDrop 37 = .ok (.iconst 0, 1) := by decide +kernel
theorem dX12_readDrop_38 : decode cX12_readDrop 38 = .ok (.ireturn, 1) := by decide +kernel
theorem dX12_readDrop_39 : decode cX12_readDrop 39 = .ok (.sipush 404, 3) := by decide +kernel
theorem dX12_readDrop_42 : decode cX12_readDrop 42 = .ok (.iconst 4, 1) := by decide +kernel
theorem dX12_readDrop_43 : decode cX12_readDrop 43 = .ok (.iload_n 1, 1) := by decide +kernel
theorem dX12_readDrop_44 : decode cX12_readDrop 44 = .ok (.imul, 1) := by decide +kernel
theorem dX12_readDrop_45 : decode cX12_readDrop 45 = .ok (.iadd, 1) := by decide +kernel
theorem dX12_readDrop_46 : decode cX12_readDrop 46 = .ok (.istore_n 2, 1) := by decide +kernel
theorem dX12_readDrop_47 : decode cX12_readDrop 47 = .ok (.aload_n 0, 1) := by decide +kernel
theorem dX12_readDrop_48 : decode cX12_readDrop 48 = .ok (.getfield 13, 3) := by decide +kernel
theorem dX12_readDrop_51 : decode cX12_readDrop 51 = .ok (.bipush 20, 2) := by decide +kernel
theorem dX12_readDrop_53 : decode cX12_readDrop 53 = .ok (.invokestatic 154, 3) := by decide +kernel
theorem dX12_readDrop_56 : decode cX12_readDrop 56 = .ok (.iload_n 2, 1) := by decide +kernel
theorem dX12_readDrop_57 : decode cX12_readDrop 57 = .ok (.iadd, 1) := by decide +kernel
theorem dX12_readDrop_58 : decode cX12_readDrop 58 = .ok (.aload_n 0, 1) := by decide +kernel
theorem dX12_readDrop_59 : decode cX12_readDrop 59 = .ok (.getfield 151, 3) := by decide +kernel
theorem dX12_readDrop_62 : decode cX12_readDrop 62 = .ok (.iastore, 1) := by decide +kernel
theorem dX12_readDrop_63 : decode cX12_readDrop 63 = .ok (.aload_n 0, 1) := by decide +kernel
theorem dX12_readDrop_64 : decode cX12_readDrop 64 = .ok (.bipush 115, 2) := by decide +kernel
theorem dX12_readDrop_66 : decode cX12_readDrop 66 = .ok (.bipush 105, 2) := by decide +kernel
theorem dX12_readDrop_68 : decode cX12_readDrop 68 = .ok (.bipush 100, 2) := by decide +kernel
theorem dX12_readDrop_70 : decode cX12_readDrop 70 = .ok (.bipush 101, 2) := by decide +kernel
theorem dX12_readDrop_72 : decode cX12_readDrop 72 = .ok (.iconst 0, 1) := by decide +kernel
theorem dX12_readDrop_73 : decode cX12_readDrop 73 = .ok (.invokestatic 109, 3) := by decide +kernel
theorem dX12_readDrop_76 : decode cX12_readDrop 76 = .ok (.invokevirtual 180, 3) := by decide +kernel
theorem dX12_readDrop_79 : decode cX12_readDrop 79 = .ok (.ifCond .eq 15, 3) := by decide +kernel
theorem dX12_readDrop_82 : decode cX12_readDrop 82 = .ok (.aload_n 0, 1) := by decide +kernel
theorem dX12_readDrop_83 : decode cX12_readDrop 83 = .ok (.iload_n 2, 1) := by decide +kernel
theorem dX12_readDrop_84 : decode cX12_readDrop 84 = .ok (.iconst 1, 1) := by decide +kernel
theorem dX12_readDrop_85 : decode cX12_readDrop 85 = .ok (.iadd, 1) := by decide +kernel
theorem dX12_readDrop_86 : decode cX12_readDrop 86 = .ok (.iconst 0, 1) := by decide +kernel
theorem dX12_readDrop_87 : decode cX12_readDrop 87 = .ok (.iconst 5, 1) := by decide +kernel
theorem dX12_readDrop_88 : decode cX12_readDrop 88 = .ok (.invokevirtual 167, 3) := by decide +kernel
theorem dX12_readDrop_91 : decode cX12_readDrop 91 = .ok (.ifCond .ne 5, 3) := by decide +kernel
theorem dX12_readDrop_94 : decode cX12_readDrop 94 = .ok (.iconst 0, 1) := by decide +kernel
theorem dX12_readDrop_95 : decode cX12_readDrop 95 = .ok (.ireturn, 1) := by decide +kernel
theorem dX12_readDrop_96 : decode cX12_readDrop 96 = .ok (.aload_n 0, 1) := by decide +kernel
theorem dX12_readDrop_97 : decode cX12_readDrop 97 = .ok (.bipush 102, 2) := by decide +kernel
theorem dX12_readDrop_99 : decode cX12_readDrop 99 = .ok (.bipush 114, 2) := by decide +kernel
theorem dX12_readDrop_101 : decode cX12_readDrop 101 = .ok (.bipush 111, 2) := by decide +kernel
theorem dX12_readDrop_103 : decode cX12_readDrop 103 = .ok (.bipush 109, 2) := by decide +kernel
theorem dX12_readDrop_105 : decode cX12_readDrop 105 = .ok (.iconst 0, 1) := by decide +kernel
theorem dX12_readDrop_106 : decode cX12_readDrop 106 = .ok (.invokestatic 109, 3) := by decide +kernel
theorem dX12_readDrop_109 : decode cX12_readDrop 109 = .ok (.invokevirtual 180, 3) := by decide +kernel
theorem dX12_readDrop_112 : decode cX12_readDrop 112 = .ok (.ifCond .eq 17, 3) := by decide +kernel
theorem dX12_readDrop_115 : decode cX12_readDrop 115 = .ok (.aload_n 0, 1) := by decide +kernel
theorem dX12_readDrop_116 : decode cX12_readDrop 116 = .ok (.iload_n 2, 1) := by decide +kernel
theorem dX12_readDrop_117 : decode cX12_readDrop 117 = .ok (.iconst 2, 1) := by decide +kernel
theorem dX12_readDrop_118 : decode cX12_readDrop 118 = .ok (.iadd, 1) := by decide +kernel
theorem dX12_readDrop_119 : decode cX12_readDrop 119 = .ok (.iconst 0, 1) := by decide +kernel
theorem dX12_readDrop_120 : decode cX12_readDrop 120 = .ok (.sipush 30000, 3) := by decide +kernel
theorem dX12_readDrop_123 : decode cX12_readDrop 123 = .ok (.invokevirtual 167, 3) := by decide +kernel
theorem dX12_readDrop_126 : decode cX12_readDrop 126 = .ok (.ifCond .ne 5, 3) := by decide +kernel
theorem dX12_readDrop_129 : decode cX12_readDrop 129 = .ok (.iconst 0, 1) := by decide +kernel
theorem dX12_readDrop_130 : decode cX12_readDrop 130 = .ok (.ireturn, 1) := by decide +kernel
theorem dX12_readDrop_131 : decode cX12_readDrop 131 = .ok (.aload_n 0, 1) := by decide +kernel
theorem dX12_readDrop_132 : decode cX12_readDrop 132 = .ok (.getfield 13, 3) := by decide +kernel
theorem dX12_readDrop_135 : decode cX12_readDrop 135 = .ok (.bipush 20, 2) := by decide +kernel
theorem dX12_readDrop_137 : decode cX12_readDrop 137 = .ok (.invokestatic 154, 3) := by decide +kernel
theorem dX12_readDrop_140 : decode cX12_readDrop 140 = .ok (.iload_n 2, 1) := by decide +kernel
theorem dX12_readDrop_141 : decode cX12_readDrop 141 = .ok (.iadd, 1) := by decide +kernel
theorem dX12_readDrop_142 : decode cX12_readDrop 142 = .ok (.iconst 3, 1) := by decide +kernel
theorem dX12_readDrop_143 : decode cX12_readDrop 143 = .ok (.iadd, 1) := by decide +kernel
theorem dX12_readDrop_144 : decode cX12_readDrop 144 = .ok (.iconst 1, 1) := by decide +kernel
theorem dX12_readDrop_145 : decode cX12_readDrop 145 = .ok (.iastore, 1) := by decide +kernel
theorem dX12_readDrop_146 : decode cX12_readDrop 146 = .ok (.aload_n 0, 1) := by decide +kernel
theorem dX12_readDrop_147 : decode cX12_readDrop 147 = .ok (.bipush 116, 2) := by decide +kernel
theorem dX12_readDrop_149 : decode cX12_readDrop 149 = .ok (.bipush 105, 2) := by decide +kernel
theorem dX12_readDrop_151 : decode cX12_readDrop 151 = .ok (.bipush 109, 2) := by decide +kernel
theorem dX12_readDrop_153 : decode cX12_readDrop 153 = .ok (.bipush 101, 2) := by decide +kernel
theorem dX12_readDrop_155 : decode cX12_readDrop 155 = .ok (.bipush 115, 2) := by decide +kernel
theorem dX12_readDrop_157 : decode cX12_readDrop 157 = .ok (.invokestatic 109, 3) := by decide +kernel
theorem dX12_readDrop_160 : decode cX12_readDrop 160 = .ok (.invokevirtual 113, 3) := by decide +kernel
theorem dX12_readDrop_163 : decode cX12_readDrop 163 = .ok (.ifCond .eq 22, 3) := by decide +kernel
theorem dX12_readDrop_166 : decode cX12_readDrop 166 = .ok (.aload_n 0, 1) := by decide +kernel
theorem dX12_readDrop_167 : decode cX12_readDrop 167 = .ok (.invokevirtual 148, 3) := by decide +kernel
theorem dX12_readDrop_170 : decode cX12_readDrop 170 = .ok (.aload_n 0, 1) := by decide +kernel
theorem dX12_readDrop_171 : decode cX12_readDrop 171 = .ok (.iload_n 2, 1) := by decide +kernel
theorem dX12_readDrop_172 : decode cX12_readDrop 172 = .ok (.iconst 3, 1) := by decide +kernel
theorem dX12_readDrop_173 : decode cX12_readDrop 173 = .ok (.iadd, 1) := by decide +kernel
theorem dX12_readDrop_174 : decode cX12_readDrop 174 = .ok (.iconst 1, 1) := by decide +kernel
theorem dX12_readDrop_175 : decode cX12_readDrop 175 = .ok (.bipush 20, 2) := by decide +kernel
theorem dX12_readDrop_177 : decode cX12_readDrop 177 = .ok (.invokevirtual 167, 3) := by decide +kernel
theorem dX12_readDrop_180 : decode cX12_readDrop 180 = .ok (.ifCond .ne 5, 3) := by decide +kernel
theorem dX12_readDrop_183 : decode cX12_readDrop 183 = .ok (.iconst 0, 1) := by decide +kernel
theorem dX12_readDrop_184 : decode cX12_readDrop 184 = .ok (.ireturn, 1) := by decide +kernel
theorem dX12_readDrop_185 : decode cX12_readDrop 185 = .ok (.aload_n 0, 1) := by decide +kernel
theorem dX12_readDrop_186 : decode cX12_readDrop 186 = .ok (.getfield 13, 3) := by decide +kernel
theorem dX12_readDrop_189 : decode cX12_readDrop 189 = .ok (.bipush 20, 2) := by decide +kernel
theorem dX12_readDrop_191 : decode cX12_readDrop 191 = .ok (.invokestatic 154, 3) := by decide +kernel
theorem dX12_readDrop_194 : decode cX12_readDrop 194 = .ok (.iconst 3, 1) := by decide +kernel
theorem dX12_readDrop_195 : decode cX12_readDrop 195 = .ok (.iadd, 1) := by decide +kernel
theorem dX12_readDrop_196 : decode cX12_readDrop 196 = .ok (.dup2, 1) := by decide +kernel
theorem dX12_readDrop_197 : decode cX12_readDrop 197 = .ok (.iaload, 1) := by decide +kernel
theorem dX12_readDrop_198 : decode cX12_readDrop 198 = .ok (.iconst 1, 1) := by decide +kernel
theorem dX12_readDrop_199 : decode cX12_readDrop 199 = .ok (.iadd, 1) := by decide +kernel
theorem dX12_readDrop_200 : decode cX12_readDrop 200 = .ok (.iastore, 1) := by decide +kernel
theorem dX12_readDrop_201 : decode cX12_readDrop 201 = .ok (.iconst 1, 1) := by decide +kernel
theorem dX12_readDrop_202 : decode cX12_readDrop 202 = .ok (.ireturn, 1) := by decide +kernel
theorem dX12_readLine_0 : decode cX12_readLine 0 = .ok (.aload_n 0, 1) := by decide +kernel
theorem dX12_readLine_1 : decode cX12_readLine 1 = .ok (.invokevirtual 119, 3) := by decide +kernel
theorem dX12_readLine_4 : decode cX12_readLine 4 = .ok (.ifCond .eq 10, 3) := by decide +kernel
theorem dX12_readLine_7 : decode cX12_readLine 7 = .ok (.aload_n 0, 1) := by decide +kernel
theorem dX12_readLine_8 : decode cX12_readLine 8 = .ok (.invokevirtual 186, 3) := by decide +kernel
theorem dX12_readLine_11 : decode cX12_readLine 11 = .ok (.goto 64, 3) := by decide +kernel
theorem dX12_readLine_14 : decode cX12_readLine 14 = .ok (.aload_n 0, 1) := by decide +kernel
theorem dX12_readLine_15 : decode cX12_readLine 15 = .ok (.invokevirtual 123, 3) := by decide +kernel
theorem dX12_readLine_18 : decode cX12_readLine 18 = .ok (.ifCond .eq 10, 3) := by decide +kernel
theorem dX12_readLine_21 : decode cX12_readLine 21 = .ok (.aload_n 0, 1) := by decide +kernel
theorem dX12_readLine_22 : decode cX12_readLine 22 = .ok (.invokevirtual 189, 3) := by decide +kernel
theorem dX12_readLine_25 : decode cX12_readLine 25 = .ok (.goto 50, 3) := by decide +kernel
theorem dX12_readLine_28 : decode cX12_readLine 28 = .ok (.aload_n 0, 1) := by decide +kernel
theorem dX12_readLine_29 : decode cX12_readLine 29 = .ok (.invokevirtual 126, 3) := by decide +kernel
theorem dX12_readLine_32 : decode cX12_readLine 32 = .ok (.ifCond .eq 10, 3) := by decide +kernel
theorem dX12_readLine_35 : decode cX12_readLine 35 = .ok (.aload_n 0, 1) := by decide +kernel
theorem dX12_readLine_36 : decode cX12_readLine 36 = .ok (.invokevirtual 192, 3) := by decide +kernel
theorem dX12_readLine_39 : decode cX12_readLine 39 = .ok (.goto 36, 3) := by decide +kernel
theorem dX12_readLine_42 : decode cX12_readLine 42 = .ok (.aload_n 0, 1) := by decide +kernel
theorem dX12_readLine_43 : decode cX12_readLine 43 = .ok (.invokevirtual 129, 3) := by decide +kernel
theorem dX12_readLine_46 : decode cX12_readLine 46 = .ok (.ifCond .eq 10, 3) := by decide +kernel
theorem dX12_readLine_49 : decode cX12_readLine 49 = .ok (.aload_n 0, 1) := by decide +kernel
theorem dX12_readLine_50 : decode cX12_readLine 50 = .ok (.invokevirtual 195, 3) := by decide +kernel
theorem dX12_readLine_53 : decode cX12_readLine 53 = .ok (.goto 22, 3) := by decide +kernel
theorem dX12_readLine_56 : decode cX12_readLine 56 = .ok (.aload_n 0, 1) := by decide +kernel
theorem dX12_readLine_57 : decode cX12_readLine 57 = .ok (.invokevirtual 132, 3) := by decide +kernel
theorem dX12_readLine_60 : decode cX12_readLine 60 = .ok (.ifCond .eq 10, 3) := by decide +kernel
theorem dX12_readLine_63 : decode cX12_readLine 63 = .ok (.aload_n 0, 1) := by decide +kernel
theorem dX12_readLine_64 : decode cX12_readLine 64 = .ok (.invokevirtual 198, 3) := by decide +kernel
theorem dX12_readLine_67 : decode cX12_readLine 67 = .ok (.goto 8, 3) := by decide +kernel
theorem dX12_readLine_70 : decode cX12_readLine 70 = .ok (.aload_n 0, 1) := by decide +kernel
theorem dX12_readLine_71 : decode cX12_readLine 71 = .ok (.iconst 1, 1) := by decide +kernel
theorem dX12_readLine_72 : decode cX12_readLine 72 = .ok (.invokevirtual 145, 3) := by decide +kernel
theorem dX12_readLine_75 : decode cX12_readLine 75 = .ok (.istore_n 1, 1) := by decide +kernel
theorem dX12_readLine_76 : decode cX12_readLine 76 = .ok (.iload_n 1, 1) := by decide +kernel
theorem dX12_readLine_77 : decode cX12_readLine 77 = .ok (.ifCond .ne 5, 3) := by decide +kernel
theorem dX12_readLine_80 : decode cX12_readLine 80 = .ok (.iconst 0, 1) := by decide +kernel
theorem dX12_readLine_81 : decode cX12_readLine 81 = .ok (.ireturn, 1) := by decide +kernel
theorem dX12_readLine_82 : decode cX12_readLine 82 = .ok (.aload_n 0, 1) := by decide +kernel
theorem dX12_readLine_83 : decode cX12_readLine 83 = .ok (.bipush 59, 2) := by decide +kernel
theorem dX12_readLine_85 : decode cX12_readLine 85 = .ok (.invokevirtual 170, 3) := by decide +kernel
theorem dX12_readLine_88 : decode cX12_readLine 88 = .ok (.ifCond .ne 9, 3) := by decide +kernel
theorem dX12_readLine_91 : decode cX12_readLine 91 = .ok (.aload_n 0, 1) := by decide +kernel
theorem dX12_readLine_92 : decode cX12_readLine 92 = .ok (.iconst 1, 1) := by decide +kernel
theorem dX12_readLine_93 : decode cX12_readLine 93 = .ok (.invokevirtual 145, 3) := by decide +kernel
theorem dX12_readLine_96 : decode cX12_readLine 96 = .ok (.ireturn, 1) := by decide +kernel
theorem dX12_readLine_97 : decode cX12_readLine 97 = .ok (.aload_n 0, 1) := by decide +kernel
theorem dX12_readLine_98 : decode cX12_readLine 98 = .ok (.invokevirtual 148, 3) := by decide +kernel
theorem dX12_readLine_101 : decode cX12_readLine 101 = .ok (.iconst 1, 1) := by decide +kernel
theorem dX12_readLine_102 : decode cX12_readLine 102 = .ok (.ireturn, 1) := by decide +kernel
theorem dX12_book_0 : decode cX12_book 0 = .ok (.aload_n 0, 1) := by decide +kernel
theorem dX12_book_1 : decode cX12_book 1 = .ok (.iconst 0, 1) := by decide +kernel
theorem dX12_book_2 : decode cX12_book 2 = .ok (.putfield 55, 3) := by decide +kernel
theorem dX12_book_5 : decode cX12_book 5 = .ok (.aload_n 0, 1) := by decide +kernel
theorem dX12_book_6 : decode cX12_book 6 = .ok (.aload_n 0, 1) := by decide +kernel
theorem dX12_book_7 : decode cX12_book 7 = .ok (.invokevirtual 201, 3) := by decide +kernel
theorem dX12_book_10 : decode cX12_book 10 = .ok (.putfield 72, 3) := by decide +kernel
theorem dX12_book_13 : decode cX12_book 13 = .ok (.aload_n 0, 1) := by decide +kernel
theorem dX12_book_14 : decode cX12_book 14 = .ok (.getfield 205, 3) := by decide +kernel
theorem dX12_book_17 : decode cX12_book 17 = .ok (.bipush 20, 2) := by decide +kernel
theorem dX12_book_19 : decode cX12_book 19 = .ok (.if_icmp .ne 7, 3) := by decide +kernel
theorem dX12_book_22 : decode cX12_book 22 = .ok (.sipush (-1000), 3) := by decide +kernel
theorem dX12_book_25 : decode cX12_book 25 = .ok (.ireturn, 1) := by decide +kernel
theorem dX12_book_26 : decode cX12_book 26 = .ok (.aload_n 0, 1) := by decide +kernel
theorem dX12_book_27 : decode cX12_book 27 = .ok (.iconst 0, 1) := by decide +kernel
theorem dX12_book_28 : decode cX12_book 28 = .ok (.putfield 139, 3) := by decide +kernel
theorem dX12_book_31 : decode cX12_book 31 = .ok (.iconst 0, 1) := by decide +kernel
theorem dX12_book_32 : decode cX12_book 32 = .ok (.istore_n 1, 1) := by decide +kernel
theorem dX12_book_33 : decode cX12_book 33 = .ok (.iload_n 1, 1) := by decide +kernel
theorem dX12_book_34 : decode cX12_book 34 = .ok (.iconst 4, 1) := by decide +kernel
theorem dX12_book_35 : decode cX12_book 35 = .ok (.if_icmp .ge 22, 3) := by decide +kernel
theorem dX12_book_38 : decode cX12_book 38 = .ok (.aload_n 0, 1) := by decide +kernel
theorem dX12_book_39 : decode cX12_book 39 = .ok (.getfield 13, 3) := by decide +kernel
theorem dX12_book_42 : decode cX12_book 42 = .ok (.bipush 20, 2) := by decide +kernel
theorem dX12_book_44 : decode cX12_book 44 = .ok (.invokestatic 154, 3) := by decide +kernel
theorem dX12_book_47 : decode cX12_book 47 = .ok (.iload_n 1, 1) := by decide +kernel
theorem dX12_book_48 : decode cX12_book 48 = .ok (.iadd, 1) := by decide +kernel
theorem dX12_book_49 : decode cX12_book 49 = .ok (.iconst 0, 1) := by decide +kernel
theorem dX12_book_50 : decode cX12_book 50 = .ok (.iastore, 1) := by decide +kernel
theorem dX12_book_51 : decode cX12_book 51 = .ok (.iinc 1 1, 3) := by decide +kernel
theorem dX12_book_54 : decode cX12_book 54 = .ok (.goto (-21), 3) := by decide +kernel
theorem dX12_book_57 : decode cX12_book 57 = .ok (.aload_n 0, 1) := by decide +kernel
theorem dX12_book_58 : decode cX12_book 58 = .ok (.iconst 0, 1) := by decide +kernel
theorem dX12_book_59 : decode cX12_book 59 = .ok (.putfield 75, 3) := by decide +kernel
theorem dX12_book_62 : decode cX12_book 62 = .ok (.iconst 0, 1) := by decide +kernel
theorem dX12_book_63 : decode cX12_book 63 = .ok (.istore_n 1, 1) := by decide +kernel
theorem dX12_book_64 : decode cX12_book 64 = .ok (.aload_n 0, 1) := by decide +kernel
theorem dX12_book_65 : decode cX12_book 65 = .ok (.invokevirtual 148, 3) := by decide +kernel
theorem dX12_book_68 : decode cX12_book 68 = .ok (.aload_n 0, 1) := by decide +kernel
theorem dX12_book_69 : decode cX12_book 69 = .ok (.getfield 81, 3) := by decide +kernel
theorem dX12_book_72 : decode cX12_book 72 = .ok (.ifCond .eq 23, 3) := by decide +kernel
theorem dX12_book_75 : decode cX12_book 75 = .ok (.aload_n 0, 1) := by decide +kernel
theorem dX12_book_76 : decode cX12_book 76 = .ok (.invokevirtual 208, 3) := by decide +kernel
theorem dX12_book_79 : decode cX12_book 79 = .ok (.ifCond .ne 10, 3) := by decide +kernel
theorem dX12_book_82 : decode cX12_book 82 = .ok (.iconst (-1), 1) := by decide +kernel
theorem dX12_book_83 : decode cX12_book 83 = .ok (.aload_n 0, 1) := by decide +kernel
theorem dX12_book_84 : decode cX12_book 84 = .ok (.getfield 142, 3) := by decide +kernel
theorem dX12_book_87 : decode cX12_book 87 = .ok (.isub, 1) := by decide +kernel
theorem dX12_book_88 : decode cX12_book 88 = .ok (.ireturn, 1) := by decide +kernel
theorem dX12_book_89 : decode cX12_book 89 = .ok (.iinc 1 1, 3) := by decide +kernel
theorem dX12_book_92 : decode cX12_book 92 = .ok (.goto (-24), 3) := by decide +kernel
theorem dX12_book_95 : decode cX12_book 95 = .ok (.iconst 0, 1) := by decide +kernel
theorem dX12_book_96 : decode cX12_book 96 = .ok (.istore_n 2, 1) := by decide +kernel
theorem dX12_book_97 : decode cX12_book 97 = .ok (.iload_n 2, 1) := by decide +kernel
theorem dX12_book_98 : decode cX12_book 98 = .ok (.sipush 484, 3) := by decide +kernel
theorem dX12_book_101 : decode cX12_book 101 = .ok (.if_icmp .ge 35, 3) := by decide +kernel
theorem dX12_book_104 : decode cX12_book 104 = .ok (.aload_n 0, 1) := by decide +kernel
theorem dX12_book_105 : decode cX12_book 105 = .ok (.getfield 13, 3) := by decide +kernel
theorem dX12_book_108 : decode cX12_book 108 = .ok (.aload_n 0, 1) := by decide +kernel
theorem dX12_book_109 : decode cX12_book 109 = .ok (.getfield 205, 3) := by decide +kernel
theorem dX12_book_112 : decode cX12_book 112 = .ok (.invokestatic 154, 3) := by decide +kernel
theorem dX12_book_115 : decode cX12_book 115 = .ok (.iload_n 2, 1) := by decide +kernel
theorem dX12_book_116 : decode cX12_book 116 = .ok (.iadd, 1) := by decide +kernel
theorem dX12_book_117 : decode cX12_book 117 = .ok (.aload_n 0, 1) := by decide +kernel
theorem dX12_book_118 : decode cX12_book 118 = .ok (.getfield 13, 3) := by decide +kernel
theorem dX12_book_121 : decode cX12_book 121 = .ok (.bipush 20, 2) := by decide +kernel
theorem dX12_book_123 : decode cX12_book 123 = .ok (.invokestatic 154, 3) := by decide +kernel
theorem dX12_book_126 : decode cX12_book 126 = .ok (.iload_n 2, 1) := by decide +kernel
theorem dX12_book_127 : decode cX12_book 127 = .ok (.iadd, 1) := by decide +kernel
theorem dX12_book_128 : decode cX12_book 128 = .ok (.iaload, 1) := by decide +kernel
theorem dX12_book_129 : decode cX12_book 129 = .ok (.iastore, 1) := by decide +kernel
theorem dX12_book_130 : decode cX12_book 130 = .ok (.iinc 2 1, 3) := by decide +kernel
theorem dX12_book_133 : decode cX12_book 133 = .ok (.goto (-36), 3) := by decide +kernel
theorem dX12_book_136 : decode cX12_book 136 = .ok (.aload_n 0, 1) := by decide +kernel
theorem dX12_book_137 : decode cX12_book 137 = .ok (.getfield 16, 3) := by decide +kernel
theorem dX12_book_140 : decode cX12_book 140 = .ok (.aload_n 0, 1) := by decide +kernel
theorem dX12_book_141 : decode cX12_book 141 = .ok (.getfield 205, 3) := by decide +kernel
theorem dX12_book_144 : decode cX12_book 144 = .ok (.aload_n 0, 1) := by decide +kernel
theorem dX12_book_145 : decode cX12_book 145 = .ok (.getfield 69, 3) := by decide +kernel
theorem dX12_book_148 : decode cX12_book 148 = .ok (.iastore, 1) := by decide +kernel
theorem dX12_book_149 : decode cX12_book 149 = .ok (.aload_n 0, 1) := by decide +kernel
theorem dX12_book_150 : decode cX12_book 150 = .ok (.dup, 1) := by decide +kernel
theorem dX12_book_151 : decode cX12_book 151 = .ok (.getfield 205, 3) := by decide +kernel
theorem dX12_book_154 : decode cX12_book 154 = .ok (.iconst 1, 1) := by decide +kernel
theorem dX12_book_155 : decode cX12_book 155 = .ok (.iadd, 1) := by decide +kernel
theorem dX12_book_156 : decode cX12_book 156 = .ok (.putfield 205, 3) := by decide +kernel
theorem dX12_book_159 : decode cX12_book 159 = .ok (.iload_n 1, 1) := by decide +kernel
theorem dX12_book_160 : decode cX12_book 160 = .ok (.ireturn, 1) := by decide +kernel
theorem dX12_fault_0 : decode cX12_fault 0 = .ok (.aload_n 0, 1) := by decide +kernel
theorem dX12_fault_1 : decode cX12_fault 1 = .ok (.iconst 0, 1) := by decide +kernel
theorem dX12_fault_2 : decode cX12_fault 2 = .ok (.putfield 55, 3) := by decide +kernel
theorem dX12_fault_5 : decode cX12_fault 5 = .ok (.aload_n 0, 1) := by decide +kernel
theorem dX12_fault_6 : decode cX12_fault 6 = .ok (.getfield 139, 3) := by decide +kernel
theorem dX12_fault_9 : decode cX12_fault 9 = .ok (.ireturn, 1) := by decide +kernel
theorem dX12_isBooked_0 : decode cX12_isBooked 0 = .ok (.aload_n 0, 1) := by decide +kernel
theorem dX12_isBooked_1 : decode cX12_isBooked 1 = .ok (.iconst (-1), 1) := by decide +kernel
theorem dX12_isBooked_2 : decode cX12_isBooked 2 = .ok (.putfield 211, 3) := by decide +kernel
theorem dX12_isBooked_5 : decode cX12_isBooked 5 = .ok (.iconst 0, 1) := by decide +kernel
theorem dX12_isBooked_6 : decode cX12_isBooked 6 = .ok (.istore_n 2, 1) := by decide +kernel
theorem dX12_isBooked_7 : decode cX12_isBooked 7 = .ok (.iload_n 2, 1) := by decide +kernel
theorem dX12_isBooked_8 : decode cX12_isBooked 8 = .ok (.aload_n 0, 1) := by decide +kernel
theorem dX12_isBooked_9 : decode cX12_isBooked 9 = .ok (.getfield 205, 3) := by decide +kernel
theorem dX12_isBooked_12 : decode cX12_isBooked 12 = .ok (.if_icmp .ge 27, 3) := by decide +kernel
theorem dX12_isBooked_15 : decode cX12_isBooked 15 = .ok (.aload_n 0, 1) := by decide +kernel
theorem dX12_isBooked_16 : decode cX12_isBooked 16 = .ok (.getfield 16, 3) := by decide +kernel
theorem dX12_isBooked_19 : decode cX12_isBooked 19 = .ok (.iload_n 2, 1) := by decide +kernel
theorem dX12_isBooked_20 : decode cX12_isBooked 20 = .ok (.iaload, 1) := by decide +kernel
theorem dX12_isBooked_21 : decode cX12_isBooked 21 = .ok (.iload_n 1, 1) := by decide +kernel
theorem dX12_isBooked_22 : decode cX12_isBooked 22 = .ok (.if_icmp .gt 11, 3) := by decide +kernel
theorem dX12_isBooked_25 : decode cX12_isBooked 25 = .ok (.aload_n 0, 1) := by decide +kernel
theorem dX12_isBooked_26 : decode cX12_isBooked 26 = .ok (.iload_n 2, 1) := by decide +kernel
theorem dX12_isBooked_27 : decode cX12_isBooked 27 = .ok (.invokestatic 154, 3) := by decide +kernel
theorem dX12_isBooked_30 : decode cX12_isBooked 30 = .ok (.putfield 211, 3) := by decide +kernel
theorem dX12_isBooked_33 : decode cX12_isBooked 33 = .ok (.iinc 2 1, 3) := by decide +kernel
theorem dX12_isBooked_36 : decode cX12_isBooked 36 = .ok (.goto (-29), 3) := by decide +kernel
theorem dX12_isBooked_39 : decode cX12_isBooked 39 = .ok (.aload_n 0, 1) := by decide +kernel
theorem dX12_isBooked_40 : decode cX12_isBooked 40 = .ok (.getfield 211, 3) := by decide +kernel
theorem dX12_isBooked_43 : decode cX12_isBooked 43 = .ok (.iconst (-1), 1) := by decide +kernel
theorem dX12_isBooked_44 : decode cX12_isBooked 44 = .ok (.if_icmp .eq 7, 3) := by decide +kernel
theorem dX12_isBooked_47 : decode cX12_isBooked 47 = .ok (.iconst 1, 1) := by decide +kernel
theorem dX12_isBooked_48 : decode cX12_isBooked 48 = .ok (.goto 4, 3) := by decide +kernel
theorem dX12_isBooked_51 : decode cX12_isBooked 51 = .ok (.iconst 0, 1) := by decide +kernel
theorem dX12_isBooked_52 : decode cX12_isBooked 52 = .ok (.ireturn, 1) := by decide +kernel
theorem dX12_of_0 : decode cX12_of 0 = .ok (.aload_n 0, 1) := by decide +kernel
theorem dX12_of_1 : decode cX12_of 1 = .ok (.getfield 13, 3) := by decide +kernel
theorem dX12_of_4 : decode cX12_of 4 = .ok (.aload_n 0, 1) := by decide +kernel
theorem dX12_of_5 : decode cX12_of 5 = .ok (.getfield 211, 3) := by decide +kernel
theorem dX12_of_8 : decode cX12_of 8 = .ok (.iload_n 1, 1) := by decide +kernel
theorem dX12_of_9 : decode cX12_of 9 = .ok (.iadd, 1) := by decide +kernel
theorem dX12_of_10 : decode cX12_of 10 = .ok (.iaload, 1) := by decide +kernel
theorem dX12_of_11 : decode cX12_of 11 = .ok (.ireturn, 1) := by decide +kernel
theorem dX12_has_0 : decode cX12_has 0 = .ok (.aload_n 0, 1) := by decide +kernel
theorem dX12_has_1 : decode cX12_has 1 = .ok (.iload_n 3, 1) := by decide +kernel
theorem dX12_has_2 : decode cX12_has 2 = .ok (.invokevirtual 214, 3) := by decide +kernel
theorem dX12_has_5 : decode cX12_has 5 = .ok (.ifCond .eq 20, 3) := by decide +kernel
theorem dX12_has_8 : decode cX12_has 8 = .ok (.iload_n 2, 1) := by decide +kernel
theorem dX12_has_9 : decode cX12_has 9 = .ok (.ifCond .lt 16, 3) := by decide +kernel
theorem dX12_has_12 : decode cX12_has 12 = .ok (.iload_n 2, 1) := by decide +kernel
theorem dX12_has_13 : decode cX12_has 13 = .ok (.aload_n 0, 1) := by decide +kernel
theorem dX12_has_14 : decode cX12_has 14 = .ok (.iload_n 1, 1) := by decide +kernel
theorem dX12_has_15 : decode cX12_has 15 = .ok (.invokevirtual 217, 3) := by decide +kernel
theorem dX12_has_18 : decode cX12_has 18 = .ok (.if_icmp .ge 7, 3) := by decide +kernel
theorem dX12_has_21 : decode cX12_has 21 = .ok (.iconst 1, 1) := by decide +kernel
theorem dX12_has_22 : decode cX12_has 22 = .ok (.goto 4, 3) := by decide +kernel
theorem dX12_has_25 : decode cX12_has 25 = .ok (.iconst 0, 1) := by decide +kernel
theorem dX12_has_26 : decode cX12_has 26 = .ok (.ireturn, 1) := by decide +kernel
theorem dX12_many_0 : decode cX12_many 0 = .ok (.aload_n 0, 1) := by decide +kernel
theorem dX12_many_1 : decode cX12_many 1 = .ok (.iconst 0, 1) := by decide +kernel
theorem dX12_many_2 : decode cX12_many 2 = .ok (.putfield 55, 3) := by decide +kernel
theorem dX12_many_5 : decode cX12_many 5 = .ok (.iload_n 1, 1) := by decide +kernel
theorem dX12_many_6 : decode cX12_many 6 = .ok (.iconst 0, 1) := by decide +kernel
theorem dX12_many_7 : decode cX12_many 7 = .ok (.iconst 3, 1) := by decide +kernel
theorem dX12_many_8 : decode cX12_many 8 = .ok (.invokestatic 65, 3) := by decide +kernel
theorem dX12_many_11 : decode cX12_many 11 = .ok (.ifCond .ne 7, 3) := by decide +kernel
theorem dX12_many_14 : decode cX12_many 14 = .ok (.iconst (-1), 1) := by decide +kernel
theorem dX12_many_15 : decode cX12_many 15 = .ok (.goto 20, 3) := by decide +kernel
theorem dX12_many_18 : decode cX12_many 18 = .ok (.aload_n 0, 1) := by decide +kernel
theorem dX12_many_19 : decode cX12_many 19 = .ok (.iload_n 2, 1) := by decide +kernel
theorem dX12_many_20 : decode cX12_many 20 = .ok (.invokevirtual 214, 3) := by decide +kernel
theorem dX12_many_23 : decode cX12_many 23 = .ok (.ifCond .eq 11, 3) := by decide +kernel
theorem dX12_many_26 : decode cX12_many 26 = .ok (.aload_n 0, 1) := by decide +kernel
theorem dX12_many_27 : decode cX12_many 27 = .ok (.iload_n 1, 1) := by decide +kernel
theorem dX12_many_28 : decode cX12_many 28 = .ok (.invokevirtual 217, 3) := by decide +kernel
theorem dX12_many_31 : decode cX12_many 31 = .ok (.goto 4, 3) := by decide +kernel
theorem dX12_many_34 : decode cX12_many 34 = .ok (.iconst 0, 1) := by decide +kernel
theorem dX12_many_35 : decode cX12_many 35 = .ok (.ireturn, 1) := by decide +kernel
theorem dX12_lay_0 : decode cX12_lay 0 = .ok (.iconst 4, 1) := by decide +kernel
theorem dX12_lay_1 : decode cX12_lay 1 = .ok (.bipush 20, 2) := by decide +kernel
theorem dX12_lay_3 : decode cX12_lay 3 = .ok (.iload_n 1, 1) := by decide +kernel
theorem dX12_lay_4 : decode cX12_lay 4 = .ok (.imul, 1) := by decide +kernel
theorem dX12_lay_5 : decode cX12_lay 5 = .ok (.iadd, 1) := by decide +kernel
theorem dX12_lay_6 : decode cX12_lay 6 = .ok (.istore_n 3, 1) := by decide +kernel
theorem dX12_lay_7 : decode cX12_lay 7 = .ok (.aload_n 0, 1) := by decide +kernel
theorem dX12_lay_8 : decode cX12_lay 8 = .ok (.iload_n 3, 1) := by decide +kernel
theorem dX12_lay_9 : decode cX12_lay 9 = .ok (.invokevirtual 217, 3) := by decide +kernel
theorem dX12_lay_12 : decode cX12_lay 12 = .ok (.istore 4, 2) := by decide +kernel
theorem dX12_lay_14 : decode cX12_lay 14 = .ok (.aload_n 0, 1) := by decide +kernel
theorem dX12_lay_15 : decode cX12_lay 15 = .ok (.aload_n 0, 1) := by decide +kernel
theorem dX12_lay_16 : decode cX12_lay 16 = .ok (.iload_n 3, 1) := by decide +kernel
theorem dX12_lay_17 : decode cX12_lay 17 = .ok (.iconst 3, 1) := by decide +kernel
theorem dX12_lay_18 : decode cX12_lay 18 = .ok (.iadd, 1) := by decide +kernel
theorem dX12_lay_19 : decode cX12_lay 19 = .ok (.iload 4, 2) := by decide +kernel
theorem dX12_lay_21 : decode cX12_lay 21 = .ok (.iadd, 1) := by decide +kernel
theorem dX12_lay_22 : decode cX12_lay 22 = .ok (.iconst 1, 1) := by decide +kernel
theorem dX12_lay_23 : decode cX12_lay 23 = .ok (.isub, 1) := by decide +kernel
theorem dX12_lay_24 : decode cX12_lay 24 = .ok (.invokevirtual 217, 3) := by decide +kernel
theorem dX12_lay_27 : decode cX12_lay 27 = .ok (.putfield 220, 3) := by decide +kernel
theorem dX12_lay_30 : decode cX12_lay 30 = .ok (.iconst 0, 1) := by decide +kernel
theorem dX12_lay_31 : decode cX12_lay 31 = .ok (.istore 5, 2) := by decide +kernel
theorem dX12_lay_33 : decode cX12_lay 33 = .ok (.iconst 0, 1) := by decide +kernel
theorem dX12_lay_34 : decode cX12_lay 34 = .ok (.istore 6, 2) := by decide +kernel
theorem dX12_lay_36 : decode cX12_lay 36 = .ok (.iload 6, 2) := by decide +kernel
theorem dX12_lay_38 : decode cX12_lay 38 = .ok (.aload_n 0, 1) := by decide +kernel
theorem dX12_lay_39 : decode cX12_lay 39 = .ok (.getfield 220, 3) := by decide +kernel
theorem dX12_lay_42 : decode cX12_lay 42 = .ok (.if_icmp .gt 159, 3) := by decide +kernel
theorem dX12_lay_45 : decode cX12_lay 45 = .ok (.iload 5, 2) := by decide +kernel
theorem dX12_lay_47 : decode cX12_lay 47 = .ok (.iload 4, 2) := by decide +kernel
theorem dX12_lay_49 : decode cX12_lay 49 = .ok (.iconst 2, 1) := by decide +kernel
theorem dX12_lay_50 : decode cX12_lay 50 = .ok (.isub, 1) := by decide +kernel
theorem dX12_lay_51 : decode cX12_lay 51 = .ok (.if_icmp .ge 21, 3) := by decide +kernel
theorem dX12_lay_54 : decode cX12_lay 54 = .ok (.iload 6, 2) := by decide +kernel
theorem dX12_lay_56 : decode cX12_lay 56 = .ok (.aload_n 0, 1) := by decide +kernel
theorem dX12_lay_57 : decode cX12_lay 57 = .ok (.iload_n 3, 1) := by decide +kernel
theorem dX12_lay_58 : decode cX12_lay 58 = .ok (.iconst 4, 1) := by decide +kernel
theorem dX12_lay_59 : decode cX12_lay 59 = .ok (.iadd, 1) := by decide +kernel
theorem dX12_lay_60 : decode cX12_lay 60 = .ok (.iload 5, 2) := by decide +kernel
theorem dX12_lay_62 : decode cX12_lay 62 = .ok (.iadd, 1) := by decide +kernel
theorem dX12_lay_63 : decode cX12_lay 63 = .ok (.invokevirtual 217, 3) := by decide +kernel
theorem dX12_lay_66 : decode cX12_lay 66 = .ok (.if_icmp .le 6, 3) := by decide +kernel
theorem dX12_lay_69 : decode cX12_lay 69 = .ok (.iinc 5 1, 3) := by decide +kernel
theorem dX12_lay_72 : decode cX12_lay 72 = .ok (.aload_n 0, 1) := by decide +kernel
theorem dX12_lay_73 : decode cX12_lay 73 = .ok (.iload_n 3, 1) := by decide +kernel
theorem dX12_lay_74 : decode cX12_lay 74 = .ok (.iconst 3, 1) := by decide +kernel
theorem dX12_lay_75 : decode cX12_lay 75 = .ok (.iadd, 1) := by decide +kernel
theorem dX12_lay_76 : decode cX12_lay 76 = .ok (.iload 5, 2) := by decide +kernel
theorem dX12_lay_78 : decode cX12_lay 78 = .ok (.iadd, 1) := by decide +kernel
theorem dX12_lay_79 : decode cX12_lay 79 = .ok (.invokevirtual 217, 3) := by decide +kernel
theorem dX12_lay_82 : decode cX12_lay 82 = .ok (.istore 7, 2) := by decide +kernel
theorem dX12_lay_84 : decode cX12_lay 84 = .ok (.aload_n 0, 1) := by decide +kernel
theorem dX12_lay_85 : decode cX12_lay 85 = .ok (.iload_n 3, 1) := by decide +kernel
theorem dX12_lay_86 : decode cX12_lay 86 = .ok (.bipush 11, 2) := by decide +kernel
theorem dX12_lay_88 : decode cX12_lay 88 = .ok (.iadd, 1) := by decide +kernel
theorem dX12_lay_89 : decode cX12_lay 89 = .ok (.iload 5, 2) := by decide +kernel
theorem dX12_lay_91 : decode cX12_lay 91 = .ok (.iadd, 1) := by decide +kernel
theorem dX12_lay_92 : decode cX12_lay 92 = .ok (.invokevirtual 217, 3) := by decide +kernel
theorem dX12_lay_95 : decode cX12_lay 95 = .ok (.istore 8, 2) := by decide +kernel
theorem dX12_lay_97 : decode cX12_lay 97 = .ok (.iload 8, 2) := by decide +kernel
theorem dX12_lay_99 : decode cX12_lay 99 = .ok (.aload_n 0, 1) := by decide +kernel
theorem dX12_lay_100 : decode cX12_lay 100 = .ok (.iload_n 3, 1) := by decide +kernel
theorem dX12_lay_101 : decode cX12_lay 101 = .ok (.bipush 12, 2) := by decide +kernel
theorem dX12_lay_103 : decode cX12_lay 103 = .ok (.iadd, 1) := by decide +kernel
theorem dX12_lay_104 : decode cX12_lay 104 = .ok (.iload 5, 2) := by decide +kernel
theorem dX12_lay_106 : decode cX12_lay 106 = .ok (.iadd, 1) := by decide +kernel
theorem dX12_lay_107 : decode cX12_lay 107 = .ok (.invokevirtual 217, 3) := by decide +kernel
theorem dX12_lay_110 : decode cX12_lay 110 = .ok (.iload 8, 2) := by decide +kernel
theorem dX12_lay_112 : decode cX12_lay 112 = .ok (.isub, 1) := by decide +kernel
theorem dX12_lay_113 : decode cX12_lay 113 = .ok (.iload 6, 2) := by decide +kernel
theorem dX12_lay_115 : decode cX12_lay 115 = .ok (.iload 7, 2) := by decide +kernel
theorem dX12_lay_117 : decode cX12_lay 117 = .ok (.isub, 1) := by decide +kernel
theorem dX12_lay_118 : decode cX12_lay 118 = .ok (.imul, 1) := by decide +kernel
theorem dX12_lay_119 : decode cX12_lay 119 = .ok (.aload_n 0, 1) := by decide +kernel
theorem dX12_lay_120 : decode cX12_lay 120 = .ok (.iload_n 3, 1) := by decide +kernel
theorem dX12_lay_121 : decode cX12_lay 121 = .ok (.iconst 4, 1) := by decide +kernel
theorem dX12_lay_122 : decode cX12_lay 122 = .ok (.iadd, 1) := by decide +kernel
theorem dX12_lay_123 : decode cX12_lay 123 = .ok (.iload 5, 2) := by decide +kernel
theorem dX12_lay_125 : decode cX12_lay 125 = .ok (.iadd, 1) := by decide +kernel
theorem dX12_lay_126 : decode cX12_lay 126 = .ok (.invokevirtual 217, 3) := by decide +kernel
theorem dX12_lay_129 : decode cX12_lay 129 = .ok (.iload 7, 2) := by decide +kernel
theorem dX12_lay_131 : decode cX12_lay 131 = .ok (.isub, 1) := by decide +kernel
theorem dX12_lay_132 : decode cX12_lay 132 = .ok (.idiv, 1) := by decide +kernel
theorem dX12_lay_133 : decode cX12_lay 133 = .ok (.iadd, 1) := by decide +kernel
theorem dX12_lay_134 : decode cX12_lay 134 = .ok (.istore 9, 2) := by decide +kernel
theorem dX12_lay_136 : decode cX12_lay 136 = .ok (.aload_n 0, 1) := by decide +kernel
theorem dX12_lay_137 : decode cX12_lay 137 = .ok (.getfield 23, 3) := by decide +kernel
theorem dX12_lay_140 : decode cX12_lay 140 = .ok (.iload 6, 2) := by decide +kernel
theorem dX12_lay_142 : decode cX12_lay 142 = .ok (.iload 9, 2) := by decide +kernel
theorem dX12_lay_144 : decode cX12_lay 144 = .ok (.iload_n 2, 1) := by decide +kernel
theorem dX12_lay_145 : decode cX12_lay 145 = .ok (.imul, 1) := by decide +kernel
theorem dX12_lay_146 : decode cX12_lay 146 = .ok (.bipush 100, 2) := by decide +kernel
theorem dX12_lay_148 : decode cX12_lay 148 = .ok (.idiv, 1) := by decide +kernel
theorem dX12_lay_149 : decode cX12_lay 149 = .ok (.iastore, 1) := by decide +kernel
theorem dX12_lay_150 : decode cX12_lay 150 = .ok (.aload_n 0, 1) := by decide +kernel
theorem dX12_lay_151 : decode cX12_lay 151 = .ok (.getfield 26, 3) := by decide +kernel
theorem dX12_lay_154 : decode cX12_lay 154 = .ok (.iload 6, 2) := by decide +kernel
theorem dX12_lay_156 : decode cX12_lay 156 = .ok (.iload 6, 2) := by decide +kernel
theorem dX12_lay_158 : decode cX12_lay 158 = .ok (.ifCond .ne 7, 3) := by decide +kernel
theorem dX12_lay_161 : decode cX12_lay 161 = .ok (.lconst 0, 1) := by decide +kernel
theorem dX12_lay_162 : decode cX12_lay 162 = .ok (.goto 32, 3) := by decide +kernel
theorem dX12_lay_165 : decode cX12_lay 165 = .ok (.aload_n 0, 1) := by decide +kernel
theorem dX12_lay_166 : decode cX12_lay 166 = .ok (.getfield 26, 3) := by decide +kernel
theorem dX12_lay_169 : decode cX12_lay 169 = .ok (.iload 6, 2) := by decide +kernel
theorem dX12_lay_171 : decode cX12_lay 171 = .ok (.iconst 1, 1) := by decide +kernel
theorem dX12_lay_172 : decode cX12_lay 172 = .ok (.isub, 1) := by decide +kernel
theorem dX12_lay_173 : decode cX12_lay 173 = .ok (.laload, 1) := by decide +kernel
theorem dX12_lay_174 : decode cX12_lay 174 = .ok (.aload_n 0, 1) := by decide +kernel
theorem dX12_lay_175 : decode cX12_lay 175 = .ok (.getfield 23, 3) := by decide +kernel
theorem dX12_lay_178 : decode cX12_lay 178 = .ok (.iload 6, 2) := by decide +kernel
theorem dX12_lay_180 : decode cX12_lay 180 = .ok (.iconst 1, 1) := by decide +kernel
theorem dX12_lay_181 : decode cX12_lay 181 = .ok (.isub, 1) := by decide +kernel
theorem dX12_lay_182 : decode cX12_lay 182 = .ok (.iaload, 1) := by decide +kernel
theorem dX12_lay_183 : decode cX12_lay 183 = .ok (.i2l, 1) := by decide +kernel
theorem dX12_lay_184 : decode cX12_lay 184 = .ok (.ladd, 1) := by decide +kernel
theorem dX12_lay_185 : decode cX12_lay 185 = .ok (.aload_n 0, 1) := by decide +kernel
theorem dX12_lay_186 : decode cX12_lay 186 = .ok (.getfield 23, 3) := by decide +kernel
theorem dX12_lay_189 : decode cX12_lay 189 = .ok (.iload 6, 2) := by decide +kernel
theorem dX12_lay_191 : decode cX12_lay 191 = .ok (.iaload, 1) := by decide +kernel
theorem dX12_lay_192 : decode cX12_lay 192 = .ok (.i2l, 1) := by decide +kernel
theorem dX12_lay_193 : decode cX12_lay 193 = .ok (.ladd, 1) := by decide +kernel
theorem dX12_lay_194 : decode cX12_lay 194 = .ok (.lastore, 1) := by decide +kernel
theorem dX12_lay_195 : decode cX12_lay 195 = .ok (.iinc 6 1, 3) := by decide +kernel
theorem dX12_lay_198 : decode cX12_lay 198 = .ok (.goto (-162), 3) := by decide +kernel
theorem dX12_lay_201 : decode cX12_lay 201 = .ok (.return_, 1) := by decide +kernel
theorem dX12_push_0 : decode cX12_push 0 = .ok (.aload_n 0, 1) := by decide +kernel
theorem dX12_push_1 : decode cX12_push 1 = .ok (.iconst 0, 1) := by decide +kernel
theorem dX12_push_2 : decode cX12_push 2 = .ok (.putfield 55, 3) := by decide +kernel
theorem dX12_push_5 : decode cX12_push 5 = .ok (.aload_n 0, 1) := by decide +kernel
theorem dX12_push_6 : decode cX12_push 6 = .ok (.iconst 0, 1) := by decide +kernel
theorem dX12_push_7 : decode cX12_push 7 = .ok (.iload_n 1, 1) := by decide +kernel
theorem dX12_push_8 : decode cX12_push 8 = .ok (.iload 4, 2) := by decide +kernel
theorem dX12_push_10 : decode cX12_push 10 = .ok (.invokevirtual 223, 3) := by decide +kernel
theorem dX12_push_13 : decode cX12_push 13 = .ok (.ifCond .eq 18, 3) := by decide +kernel
theorem dX12_push_16 : decode cX12_push 16 = .ok (.iload_n 3, 1) := by decide +kernel
theorem dX12_push_17 : decode cX12_push 17 = .ok (.iconst 0, 1) := by decide +kernel
theorem dX12_push_18 : decode cX12_push 18 = .ok (.sipush 200, 3) := by decide +kernel
theorem dX12_push_21 : decode cX12_push 21 = .ok (.invokestatic 65, 3) := by decide +kernel
theorem dX12_push_24 : decode cX12_push 24 = .ok (.ifCond .eq 7, 3) := by decide +kernel
theorem dX12_push_27 : decode cX12_push 27 = .ok (.iload_n 2, 1) := by decide +kernel
theorem dX12_push_28 : decode cX12_push 28 = .ok (.ifCond .ge 5, 3) := by decide +kernel
theorem dX12_push_31 : decode cX12_push 31 = .ok (.iconst (-1), 1) := by decide +kernel
theorem dX12_push_32 : decode cX12_push 32 = .ok (.ireturn, 1) := by decide +kernel
theorem dX12_push_33 : decode cX12_push 33 = .ok (.aload_n 0, 1) := by decide +kernel
theorem dX12_push_34 : decode cX12_push 34 = .ok (.iload_n 1, 1) := by decide +kernel
theorem dX12_push_35 : decode cX12_push 35 = .ok (.iload_n 3, 1) := by decide +kernel
theorem dX12_push_36 : decode cX12_push 36 = .ok (.invokevirtual 226, 3) := by decide +kernel
theorem dX12_push_39 : decode cX12_push 39 = .ok (.iload_n 2, 1) := by decide +kernel
theorem dX12_push_40 : decode cX12_push 40 = .ok (.aload_n 0, 1) := by decide +kernel
theorem dX12_push_41 : decode cX12_push 41 = .ok (.getfield 220, 3) := by decide +kernel
theorem dX12_push_44 : decode cX12_push 44 = .ok (.if_icmp .gt 12, 3) := by decide +kernel
theorem dX12_push_47 : decode cX12_push 47 = .ok (.aload_n 0, 1) := by decide +kernel
theorem dX12_push_48 : decode cX12_push 48 = .ok (.getfield 23, 3) := by decide +kernel
theorem dX12_push_51 : decode cX12_push 51 = .ok (.iload_n 2, 1) := by decide +kernel
theorem dX12_push_52 : decode cX12_push 52 = .ok (.iaload, 1) := by decide +kernel
theorem dX12_push_53 : decode cX12_push 53 = .ok (.goto 4, 3) := by decide +kernel
theorem dX12_push_56 : decode cX12_push 56 = .ok (.iconst (-1), 1) := by decide +kernel
theorem dX12_push_57 : decode cX12_push 57 = .ok (.ireturn, 1) := by decide +kernel
theorem dX12_squeezed_0 : decode cX12_squeezed 0 = .ok (.iconst 0, 1) := by decide +kernel
theorem dX12_squeezed_1 : decode cX12_squeezed 1 = .ok (.istore 9, 2) := by decide +kernel
theorem dX12_squeezed_3 : decode cX12_squeezed 3 = .ok (.iload 9, 2) := by decide +kernel
theorem dX12_squeezed_5 : decode cX12_squeezed 5 = .ok (.aload_n 0, 1) := by decide +kernel
theorem dX12_squeezed_6 : decode cX12_squeezed 6 = .ok (.getfield 220, 3) := by decide +kernel
theorem dX12_squeezed_9 : decode cX12_squeezed 9 = .ok (.if_icmp .gt 47, 3) := by decide +kernel
theorem dX12_squeezed_12 : decode cX12_squeezed 12 = .ok (.aload_n 0, 1) := by decide +kernel
theorem dX12_squeezed_13 : decode cX12_squeezed 13 = .ok (.getfield 26, 3) := by decide +kernel
theorem dX12_squeezed_16 : decode cX12_squeezed 16 = .ok (.iload 9, 2) := by decide +kernel
theorem dX12_squeezed_18 : decode cX12_squeezed 18 = .ok (.laload, 1) := by decide +kernel
theorem dX12_squeezed_19 : decode cX12_squeezed 19 = .ok (.lload 7, 2) := by decide +kernel
theorem dX12_squeezed_21 : decode cX12_squeezed 21 = .ok (.lmul, 1) := by decide +kernel
theorem dX12_squeezed_22 : decode cX12_squeezed 22 = .ok (.lload 5, 2) := by decide +kernel
theorem dX12_squeezed_24 : decode cX12_squeezed 24 = .ok (.lmul, 1) := by decide +kernel
theorem dX12_squeezed_25 : decode cX12_squeezed 25 = .ok (.ldc2_w 230, 3) := by decide +kernel
theorem dX12_squeezed_28 : decode cX12_squeezed 28 = .ok (.lload_n 1, 1) := by decide +kernel
theorem dX12_squeezed_29 : decode cX12_squeezed 29 = .ok (.lmul, 1) := by decide +kernel
theorem dX12_squeezed_30 : decode cX12_squeezed 30 = .ok (.ldc2_w 232, 3) := by decide +kernel
theorem dX12_squeezed_33 : decode cX12_squeezed 33 = .ok (.lload_n 3, 1) := by decide +kernel
theorem dX12_squeezed_34 : decode cX12_squeezed 34 = .ok (.lmul, 1) := by decide +kernel
theorem dX12_squeezed_35 : decode cX12_squeezed 35 = .ok (.iload 9, 2) := by decide +kernel
theorem dX12_squeezed_37 : decode cX12_squeezed 37 = .ok (.i2l, 1) := by decide +kernel
theorem dX12_squeezed_38 : decode cX12_squeezed 38 = .ok (.lload 5, 2) := by decide +kernel
theorem dX12_squeezed_40 : decode cX12_squeezed 40 = .ok (.lmul, 1) := by decide +kernel
theorem dX12_squeezed_41 : decode cX12_squeezed 41 = .ok (.ladd, 1) := by decide +kernel
theorem dX12_squeezed_42 : decode cX12_squeezed 42 = .ok (.lmul, 1) := by decide +kernel
theorem dX12_squeezed_43 : decode cX12_squeezed 43 = .ok (.lcmp, 1) := by decide +kernel
theorem dX12_squeezed_44 : decode cX12_squeezed 44 = .ok (.ifCond .lt 6, 3) := by decide +kernel
theorem dX12_squeezed_47 : decode cX12_squeezed 47 = .ok (.iload 9, 2) := by decide +kernel
theorem dX12_squeezed_49 : decode cX12_squeezed 49 = .ok (.ireturn, 1) := by decide +kernel
theorem dX12_squeezed_50 : decode cX12_squeezed 50 = .ok (.iinc 9 1, 3) := by decide +kernel
theorem dX12_squeezed_53 : decode cX12_squeezed 53 = .ok (.goto (-50), 3) := by decide +kernel
theorem dX12_squeezed_56 : decode cX12_squeezed 56 = .ok (.bipush (-2), 2) := by decide +kernel
theorem dX12_squeezed_58 : decode cX12_squeezed 58 = .ok (.ireturn, 1) := by decide +kernel
theorem dX12_blowAt_0 : decode cX12_blowAt 0 = .ok (.aload_n 0, 1) := by decide +kernel
theorem dX12_blowAt_1 : decode cX12_blowAt 1 = .ok (.getfield 23, 3) := by decide +kernel
theorem dX12_blowAt_4 : decode cX12_blowAt 4 = .ok (.iload_n 1, 1) := by decide +kernel
theorem dX12_blowAt_5 : decode cX12_blowAt 5 = .ok (.iaload, 1) := by decide +kernel
theorem dX12_blowAt_6 : decode cX12_blowAt 6 = .ok (.i2l, 1) := by decide +kernel
theorem dX12_blowAt_7 : decode cX12_blowAt 7 = .ok (.lload 4, 2) := by decide +kernel
theorem dX12_blowAt_9 : decode cX12_blowAt 9 = .ok (.lmul, 1) := by decide +kernel
theorem dX12_blowAt_10 : decode cX12_blowAt 10 = .ok (.ldc2_w 234, 3) := by decide +kernel
theorem dX12_blowAt_13 : decode cX12_blowAt 13 = .ok (.lmul, 1) := by decide +kernel
theorem dX12_blowAt_14 : decode cX12_blowAt 14 = .ok (.lload_n 2, 1) := by decide +kernel
theorem dX12_blowAt_15 : decode cX12_blowAt 15 = .ok (.ldiv, 1) := by decide +kernel
theorem dX12_blowAt_16 : decode cX12_blowAt 16 = .ok (.lstore 6, 2) := by decide +kernel
theorem dX12_blowAt_18 : decode cX12_blowAt 18 = .ok (.lload 6, 2) := by decide +kernel
theorem dX12_blowAt_20 : decode cX12_blowAt 20 = .ok (.ldc2_w 236, 3) := by decide +kernel
theorem dX12_blowAt_23 : decode cX12_blowAt 23 = .ok (.lcmp, 1) := by decide +kernel
theorem dX12_blowAt_24 : decode cX12_blowAt 24 = .ok (.ifCond .le 8, 3) := by decide +kernel
theorem dX12_blowAt_27 : decode cX12_blowAt 27 = .ok (.ldc 238, 2) := by decide +kernel
theorem dX12_blowAt_29 : decode cX12_blowAt 29 = .ok (.goto 6, 3) := by decide +kernel
theorem dX12_blowAt_32 : decode cX12_blowAt 32 = .ok (.lload 6, 2) := by decide +kernel
theorem dX12_blowAt_34 : decode cX12_blowAt 34 = .ok (.l2i, 1) := by decide +kernel
theorem dX12_blowAt_35 : decode cX12_blowAt 35 = .ok (.ireturn, 1) := by decide +kernel
theorem dX12_takePad_0 : decode cX12_takePad 0 = .ok (.sipush 164, 3) := by decide +kernel
theorem dX12_takePad_3 : decode cX12_takePad 3 = .ok (.bipush 24, 2) := by decide +kernel
theorem dX12_takePad_5 : decode cX12_takePad 5 = .ok (.iload_n 1, 1) := by decide +kernel
theorem dX12_takePad_6 : decode cX12_takePad 6 = .ok (.imul, 1) := by decide +kernel
theorem dX12_takePad_7 : decode cX12_takePad 7 = .ok (.iadd, 1) := by decide +kernel
theorem dX12_takePad_8 : decode cX12_takePad 8 = .ok (.iconst 5, 1) := by decide +kernel
theorem dX12_takePad_9 : decode cX12_takePad 9 = .ok (.iadd, 1) := by decide +kernel
theorem dX12_takePad_10 : decode cX12_takePad 10 = .ok (.iconst 3, 1) := by decide +kernel
theorem dX12_takePad_11 : decode cX12_takePad 11 = .ok (.iload_n 2, 1) := by decide +kernel
theorem dX12_takePad_12 : decode cX12_takePad 12 = .ok (.imul, 1) := by decide +kernel
theorem dX12_takePad_13 : decode cX12_takePad 13 = .ok (.iadd, 1) := by decide +kernel
theorem dX12_takePad_14 : decode cX12_takePad 14 = .ok (.istore_n 3, 1) := by decide +kernel
theorem dX12_takePad_15 : decode cX12_takePad 15 = .ok (.aload_n 0, 1) := by decide +kernel
theorem dX12_takePad_16 : decode cX12_takePad 16 = .ok (.aload_n 0, 1) := by decide +kernel
theorem dX12_takePad_17 : decode cX12_takePad 17 = .ok (.iload_n 3, 1) := by decide +kernel
theorem dX12_takePad_18 : decode cX12_takePad 18 = .ok (.invokevirtual 217, 3) := by decide +kernel
theorem dX12_takePad_21 : decode cX12_takePad 21 = .ok (.iconst 1, 1) := by decide +kernel
theorem dX12_takePad_22 : decode cX12_takePad 22 = .ok (.isub, 1) := by decide +kernel
theorem dX12_takePad_23 : decode cX12_takePad 23 = .ok (.putfield 239, 3) := by decide +kernel
theorem dX12_takePad_26 : decode cX12_takePad 26 = .ok (.aload_n 0, 1) := by decide +kernel
theorem dX12_takePad_27 : decode cX12_takePad 27 = .ok (.aload_n 0, 1) := by decide +kernel
theorem dX12_takePad_28 : decode cX12_takePad 28 = .ok (.iload_n 3, 1) := by decide +kernel
theorem dX12_takePad_29 : decode cX12_takePad 29 = .ok (.iconst 1, 1) := by decide +kernel
theorem dX12_takePad_30 : decode cX12_takePad 30 = .ok (.iadd, 1) := by decide +kernel
theorem dX12_takePad_31 : decode cX12_takePad 31 = .ok (.invokevirtual 217, 3) := by decide +kernel
theorem dX12_takePad_34 : decode cX12_takePad 34 = .ok (.putfield 242, 3) := by decide +kernel
theorem dX12_takePad_37 : decode cX12_takePad 37 = .ok (.aload_n 0, 1) := by decide +kernel
theorem dX12_takePad_38 : decode cX12_takePad 38 = .ok (.aload_n 0, 1) := by decide +kernel
theorem dX12_takePad_39 : decode cX12_takePad 39 = .ok (.iload_n 3, 1) := by decide +kernel
theorem dX12_takePad_40 : decode cX12_takePad 40 = .ok (.iconst 2, 1) := by decide +kernel
theorem dX12_takePad_41 : decode cX12_takePad 41 = .ok (.iadd, 1) := by decide +kernel
theorem dX12_takePad_42 : decode cX12_takePad 42 = .ok (.invokevirtual 217, 3) := by decide +kernel
theorem dX12_takePad_45 : decode cX12_takePad 45 = .ok (.putfield 245, 3) := by decide +kernel
theorem dX12_takePad_48 : decode cX12_takePad 48 = .ok (.aload_n 0, 1) := by decide +kernel
theorem dX12_takePad_49 : decode cX12_takePad 49 = .ok (.getfield 239, 3) := by decide +kernel
theorem dX12_takePad_52 : decode cX12_takePad 52 = .ok (.ifCond .lt 7, 3) := by decide +kernel
theorem dX12_takePad_55 : decode cX12_takePad 55 = .ok (.iconst 1, 1) := by decide +kernel
theorem dX12_takePad_56 : decode cX12_takePad 56 = .ok (.goto 4, 3) := by decide +kernel
theorem dX12_takePad_59 : decode cX12_takePad 59 = .ok (.iconst 0, 1) := by decide +kernel
theorem dX12_takePad_60 : decode cX12_takePad 60 = .ok (.ireturn, 1) := by decide +kernel
theorem dX12_weightOf_0 : decode cX12_weightOf 0 = .ok (.aload_n 0, 1) := by decide +kernel
theorem dX12_weightOf_1 : decode cX12_weightOf 1 = .ok (.sipush 164, 3) := by decide +kernel
theorem dX12_weightOf_4 : decode cX12_weightOf 4 = .ok (.bipush 24, 2) := by decide +kernel
theorem dX12_weightOf_6 : decode cX12_weightOf 6 = .ok (.iload_n 1, 1) := by decide +kernel
theorem dX12_weightOf_7 : decode cX12_weightOf 7 = .ok (.imul, 1) := by decide +kernel
theorem dX12_weightOf_8 : decode cX12_weightOf 8 = .ok (.iadd, 1) := by decide +kernel
theorem dX12_weightOf_9 : decode cX12_weightOf 9 = .ok (.invokevirtual 217, 3) := by decide +kernel
theorem dX12_weightOf_12 : decode cX12_weightOf 12 = .ok (.ireturn, 1) := by decide +kernel
theorem dX12_markOf_0 : decode cX12_markOf 0 = .ok (.aload_n 0, 1) := by decide +kernel
theorem dX12_markOf_1 : decode cX12_markOf 1 = .ok (.sipush 164, 3) := by decide +kernel
theorem dX12_markOf_4 : decode cX12_markOf 4 = .ok (.bipush 24, 2) := by decide +kernel
theorem dX12_markOf_6 : decode cX12_markOf 6 = .ok (.iload_n 1, 1) := by decide +kernel
theorem dX12_markOf_7 : decode cX12_markOf 7 = .ok (.imul, 1) := by decide +kernel
theorem dX12_markOf_8 : decode cX12_markOf 8 = .ok (.iadd, 1) := by decide +kernel
theorem dX12_markOf_9 : decode cX12_markOf 9 = .ok (.iconst 4, 1) := by decide +kernel
theorem dX12_markOf_10 : decode cX12_markOf 10 = .ok (.iadd, 1) := by decide +kernel
theorem dX12_markOf_11 : decode cX12_markOf 11 = .ok (.invokevirtual 217, 3) := by decide +kernel
theorem dX12_markOf_14 : decode cX12_markOf 14 = .ok (.ireturn, 1) := by decide +kernel
theorem dX12_isDropped_0 : decode cX12_isDropped 0 = .ok (.aload_n 0, 1) := by decide +kernel
theorem dX12_isDropped_1 : decode cX12_isDropped 1 = .ok (.iconst 1, 1) := by decide +kernel
theorem dX12_isDropped_2 : decode cX12_isDropped 2 = .ok (.iload_n 1, 1) := by decide +kernel
theorem dX12_isDropped_3 : decode cX12_isDropped 3 = .ok (.iload 4, 2) := by decide +kernel
theorem dX12_isDropped_5 : decode cX12_isDropped 5 = .ok (.invokevirtual 223, 3) := by decide +kernel
theorem dX12_isDropped_8 : decode cX12_isDropped 8 = .ok (.ifCond .eq 27, 3) := by decide +kernel
theorem dX12_isDropped_11 : decode cX12_isDropped 11 = .ok (.iload_n 2, 1) := by decide +kernel
theorem dX12_isDropped_12 : decode cX12_isDropped 12 = .ok (.iconst 0, 1) := by decide +kernel
theorem dX12_isDropped_13 : decode cX12_isDropped 13 = .ok (.iconst 5, 1) := by decide +kernel
theorem dX12_isDropped_14 : decode cX12_isDropped 14 = .ok (.invokestatic 65, 3) := by decide +kernel
theorem dX12_isDropped_17 : decode cX12_isDropped 17 = .ok (.ifCond .eq 18, 3) := by decide +kernel
theorem dX12_isDropped_20 : decode cX12_isDropped 20 = .ok (.iload_n 3, 1) := by decide +kernel
theorem dX12_isDropped_21 : decode cX12_isDropped 21 = .ok (.iconst 0, 1) := by decide +kernel
theorem dX12_isDropped_22 : decode cX12_isDropped 22 = .ok (.sipush 30000, 3) := by decide +kernel
theorem dX12_isDropped_25 : decode cX12_isDropped 25 = .ok (.invokestatic 65, 3) := by decide +kernel
theorem dX12_isDropped_28 : decode cX12_isDropped 28 = .ok (.ifCond .eq 7, 3) := by decide +kernel
theorem dX12_isDropped_31 : decode cX12_isDropped 31 = .ok (.iconst 1, 1) := by decide +kernel
theorem dX12_isDropped_32 : decode cX12_isDropped 32 = .ok (.goto 4, 3) := by decide +kernel
theorem dX12_isDropped_35 : decode cX12_isDropped 35 = .ok (.iconst 0, 1) := by decide +kernel
theorem dX12_isDropped_36 : decode cX12_isDropped 36 = .ok (.ireturn, 1) := by decide +kernel
theorem dX12_squeeze_0 : decode cX12_squeeze 0 = .ok (.aload_n 0, 1) := by decide +kernel
theorem dX12_squeeze_1 : decode cX12_squeeze 1 = .ok (.iconst 0, 1) := by decide +kernel
theorem dX12_squeeze_2 : decode cX12_squeeze 2 = .ok (.putfield 55, 3) := by decide +kernel
theorem dX12_squeeze_5 : decode cX12_squeeze 5 = .ok (.aload_n 0, 1) := by decide +kernel
theorem dX12_squeeze_6 : decode cX12_squeeze 6 = .ok (.iload_n 1, 1) := by decide +kernel
theorem dX12_squeeze_7 : decode cX12_squeeze 7 = .ok (.iload_n 2, 1) := by decide +kernel
theorem dX12_squeeze_8 : decode cX12_squeeze 8 = .ok (.iload_n 3, 1) := by decide +kernel
theorem dX12_squeeze_9 : decode cX12_squeeze 9 = .ok (.iload 5, 2) := by decide +kernel
theorem dX12_squeeze_11 : decode cX12_squeeze 11 = .ok (.invokevirtual 248, 3) := by decide +kernel
theorem dX12_squeeze_14 : decode cX12_squeeze 14 = .ok (.ifCond .eq 15, 3) := by decide +kernel
theorem dX12_squeeze_17 : decode cX12_squeeze 17 = .ok (.iload 4, 2) := by decide +kernel
theorem dX12_squeeze_19 : decode cX12_squeeze 19 = .ok (.iconst 0, 1) := by decide +kernel
theorem dX12_squeeze_20 : decode cX12_squeeze 20 = .ok (.sipush 200, 3) := by decide +kernel
theorem dX12_squeeze_23 : decode cX12_squeeze 23 = .ok (.invokestatic 65, 3) := by decide +kernel
theorem dX12_squeeze_26 : decode cX12_squeeze 26 = .ok (.ifCond .ne 5, 3) := by decide +kernel
theorem dX12_squeeze_29 : decode cX12_squeeze 29 = .ok (.iconst (-1), 1) := by decide +kernel
theorem dX12_squeeze_30 : decode cX12_squeeze 30 = .ok (.ireturn, 1) := by decide +kernel
theorem dX12_squeeze_31 : decode cX12_squeeze 31 = .ok (.aload_n 0, 1) := by decide +kernel
theorem dX12_squeeze_32 : decode cX12_squeeze 32 = .ok (.iload_n 1, 1) := by decide +kernel
theorem dX12_squeeze_33 : decode cX12_squeeze 33 = .ok (.iload_n 2, 1) := by decide +kernel
theorem dX12_squeeze_34 : decode cX12_squeeze 34 = .ok (.invokevirtual 252, 3) := by decide +kernel
theorem dX12_squeeze_37 : decode cX12_squeeze 37 = .ok (.ifCond .ne 6, 3) := by decide +kernel
theorem dX12_squeeze_40 : decode cX12_squeeze 40 = .ok (.bipush (-2), 2) := by decide +kernel
theorem dX12_squeeze_42 : decode cX12_squeeze 42 = .ok (.ireturn, 1) := by decide +kernel
theorem dX12_squeeze_43 : decode cX12_squeeze 43 = .ok (.aload_n 0, 1) := by decide +kernel
theorem dX12_squeeze_44 : decode cX12_squeeze 44 = .ok (.aload_n 0, 1) := by decide +kernel
theorem dX12_squeeze_45 : decode cX12_squeeze 45 = .ok (.getfield 239, 3) := by decide +kernel
theorem dX12_squeeze_48 : decode cX12_squeeze 48 = .ok (.iload 4, 2) := by decide +kernel
theorem dX12_squeeze_50 : decode cX12_squeeze 50 = .ok (.invokevirtual 226, 3) := by decide +kernel
theorem dX12_squeeze_53 : decode cX12_squeeze 53 = .ok (.aload_n 0, 1) := by decide +kernel
theorem dX12_squeeze_54 : decode cX12_squeeze 54 = .ok (.aload_n 0, 1) := by decide +kernel
theorem dX12_squeeze_55 : decode cX12_squeeze 55 = .ok (.iload_n 1, 1) := by decide +kernel
theorem dX12_squeeze_56 : decode cX12_squeeze 56 = .ok (.invokevirtual 255, 3) := by decide +kernel
theorem dX12_squeeze_59 : decode cX12_squeeze 59 = .ok (.i2l, 1) := by decide +kernel
theorem dX12_squeeze_60 : decode cX12_squeeze 60 = .ok (.iload_n 3, 1) := by decide +kernel
theorem dX12_squeeze_61 : decode cX12_squeeze 61 = .ok (.i2l, 1) := by decide +kernel
theorem dX12_squeeze_62 : decode cX12_squeeze 62 = .ok (.aload_n 0, 1) := by decide +kernel
theorem dX12_squeeze_63 : decode cX12_squeeze 63 = .ok (.getfield 242, 3) := by decide +kernel
theorem dX12_squeeze_66 : decode cX12_squeeze 66 = .ok (.i2l, 1) := by decide +kernel
theorem dX12_squeeze_67 : decode cX12_squeeze 67 = .ok (.aload_n 0, 1) := by decide +kernel
theorem dX12_squeeze_68 : decode cX12_squeeze 68 = .ok (.getfield 245, 3) := by decide +kernel
theorem dX12_squeeze_71 : decode cX12_squeeze 71 = .ok (.i2l, 1) := by decide +kernel
theorem dX12_squeeze_72 : decode cX12_squeeze 72 = .ok (.invokevirtual 258, 3) := by decide +kernel
theorem dX12_squeeze_75 : decode cX12_squeeze 75 = .ok (.ireturn, 1) := by decide +kernel
theorem dX12_blow_0 : decode cX12_blow 0 = .ok (.aload_n 0, 1) := by decide +kernel
theorem dX12_blow_1 : decode cX12_blow 1 = .ok (.iload_n 1, 1) := by decide +kernel
theorem dX12_blow_2 : decode cX12_blow 2 = .ok (.iload_n 2, 1) := by decide +kernel
theorem dX12_blow_3 : decode cX12_blow 3 = .ok (.iload_n 3, 1) := by decide +kernel
theorem dX12_blow_4 : decode cX12_blow 4 = .ok (.iload 4, 2) := by decide +kernel
theorem dX12_blow_6 : decode cX12_blow 6 = .ok (.iload 5, 2) := by decide +kernel
theorem dX12_blow_8 : decode cX12_blow 8 = .ok (.invokevirtual 262, 3) := by decide +kernel
theorem dX12_blow_11 : decode cX12_blow 11 = .ok (.istore 6, 2) := by decide +kernel
theorem dX12_blow_13 : decode cX12_blow 13 = .ok (.iload 6, 2) := by decide +kernel
theorem dX12_blow_15 : decode cX12_blow 15 = .ok (.ifCond .ge 8, 3) := by decide +kernel
theorem dX12_blow_18 : decode cX12_blow 18 = .ok (.iload 6, 2) := by decide +kernel
theorem dX12_blow_20 : decode cX12_blow 20 = .ok (.goto 20, 3) := by decide +kernel
theorem dX12_blow_23 : decode cX12_blow 23 = .ok (.aload_n 0, 1) := by decide +kernel
theorem dX12_blow_24 : decode cX12_blow 24 = .ok (.iload 6, 2) := by decide +kernel
theorem dX12_blow_26 : decode cX12_blow 26 = .ok (.aload_n 0, 1) := by decide +kernel
theorem dX12_blow_27 : decode cX12_blow 27 = .ok (.iload_n 1, 1) := by decide +kernel
theorem dX12_blow_28 : decode cX12_blow 28 = .ok (.invokevirtual 255, 3) := by decide +kernel
theorem dX12_blow_31 : decode cX12_blow 31 = .ok (.i2l, 1) := by decide +kernel
theorem dX12_blow_32 : decode cX12_blow 32 = .ok (.aload_n 0, 1) := by decide +kernel
theorem dX12_blow_33 : decode cX12_blow 33 = .ok (.getfield 245, 3) := by decide +kernel
theorem dX12_blow_36 : decode cX12_blow 36 = .ok (.i2l, 1) := by decide +kernel
theorem dX12_blow_37 : decode cX12_blow 37 = .ok (.invokevirtual 266, 3) := by decide +kernel
theorem dX12_blow_40 : decode cX12_blow 40 = .ok (.ireturn, 1) := by decide +kernel
theorem dX12_holds_0 : decode cX12_holds 0 = .ok (.aload_n 0, 1) := by decide +kernel
theorem dX12_holds_1 : decode cX12_holds 1 = .ok (.iload_n 1, 1) := by decide +kernel
theorem dX12_holds_2 : decode cX12_holds 2 = .ok (.i2l, 1) := by decide +kernel
theorem dX12_holds_3 : decode cX12_holds 3 = .ok (.iload_n 2, 1) := by decide +kernel
theorem dX12_holds_4 : decode cX12_holds 4 = .ok (.i2l, 1) := by decide +kernel
theorem dX12_holds_5 : decode cX12_holds 5 = .ok (.aload_n 0, 1) := by decide +kernel
theorem dX12_holds_6 : decode cX12_holds 6 = .ok (.getfield 242, 3) := by decide +kernel
theorem dX12_holds_9 : decode cX12_holds 9 = .ok (.i2l, 1) := by decide +kernel
theorem dX12_holds_10 : decode cX12_holds 10 = .ok (.aload_n 0, 1) := by decide +kernel
theorem dX12_holds_11 : decode cX12_holds 11 = .ok (.getfield 245, 3) := by decide +kernel
theorem dX12_holds_14 : decode cX12_holds 14 = .ok (.i2l, 1) := by decide +kernel
theorem dX12_holds_15 : decode cX12_holds 15 = .ok (.invokevirtual 258, 3) := by decide +kernel
theorem dX12_holds_18 : decode cX12_holds 18 = .ok (.istore 4, 2) := by decide +kernel
theorem dX12_holds_20 : decode cX12_holds 20 = .ok (.iload 4, 2) := by decide +kernel
theorem dX12_holds_22 : decode cX12_holds 22 = .ok (.ifCond .lt 24, 3) := by decide +kernel
theorem dX12_holds_25 : decode cX12_holds 25 = .ok (.aload_n 0, 1) := by decide +kernel
theorem dX12_holds_26 : decode cX12_holds 26 = .ok (.iload 4, 2) := by decide +kernel
theorem dX12_holds_28 : decode cX12_holds 28 = .ok (.iload_n 1, 1) := by decide +kernel
theorem dX12_holds_29 : decode cX12_holds 29 = .ok (.i2l, 1) := by decide +kernel
theorem dX12_holds_30 : decode cX12_holds 30 = .ok (.aload_n 0, 1) := by decide +kernel
theorem dX12_holds_31 : decode cX12_holds 31 = .ok (.getfield 245, 3) := by decide +kernel
theorem dX12_holds_34 : decode cX12_holds 34 = .ok (.i2l, 1) := by decide +kernel
theorem dX12_holds_35 : decode cX12_holds 35 = .ok (.invokevirtual 266, 3) := by decide +kernel
theorem dX12_holds_38 : decode cX12_holds 38 = .ok (.iload_n 3, 1) := by decide +kernel
theorem dX12_holds_39 : decode cX12_holds 39 = .ok (.if_icmp .gt 7, 3) := by decide +kernel
theorem dX12_holds_42 : decode cX12_holds 42 = .ok (.iconst 1, 1) := by decide +kernel
theorem dX12_holds_43 : decode cX12_holds 43 = .ok (.goto 4, 3) := by decide +kernel
theorem dX12_holds_46 : decode cX12_holds 46 = .ok (.iconst 0, 1) := by decide +kernel
theorem dX12_holds_47 : decode cX12_holds 47 = .ok (.ireturn, 1) := by decide +kernel
theorem dX12_keepsOf_0 : decode cX12_keepsOf 0 = .ok (.aload_n 0, 1) := by decide +kernel
theorem dX12_keepsOf_1 : decode cX12_keepsOf 1 = .ok (.iconst 4, 1) := by decide +kernel
theorem dX12_keepsOf_2 : decode cX12_keepsOf 2 = .ok (.bipush 20, 2) := by decide +kernel
theorem dX12_keepsOf_4 : decode cX12_keepsOf 4 = .ok (.iload_n 1, 1) := by decide +kernel
theorem dX12_keepsOf_5 : decode cX12_keepsOf 5 = .ok (.imul, 1) := by decide +kernel
theorem dX12_keepsOf_6 : decode cX12_keepsOf 6 = .ok (.iadd, 1) := by decide +kernel
theorem dX12_keepsOf_7 : decode cX12_keepsOf 7 = .ok (.iconst 1, 1) := by decide +kernel
theorem dX12_keepsOf_8 : decode cX12_keepsOf 8 = .ok (.iadd, 1) := by decide +kernel
theorem dX12_keepsOf_9 : decode cX12_keepsOf 9 = .ok (.invokevirtual 217, 3) := by decide +kernel
theorem dX12_keepsOf_12 : decode cX12_keepsOf 12 = .ok (.ireturn, 1) := by decide +kernel
theorem dX12_again_0 : decode cX12_again 0 = .ok (.aload_n 0, 1) := by decide +kernel
theorem dX12_again_1 : decode cX12_again 1 = .ok (.iconst 0, 1) := by decide +kernel
theorem dX12_again_2 : decode cX12_again 2 = .ok (.putfield 55, 3) := by decide +kernel
theorem dX12_again_5 : decode cX12_again 5 = .ok (.aload_n 0, 1) := by decide +kernel
theorem dX12_again_6 : decode cX12_again 6 = .ok (.iload_n 1, 1) := by decide +kernel
theorem dX12_again_7 : decode cX12_again 7 = .ok (.iload_n 2, 1) := by decide +kernel
theorem dX12_again_8 : decode cX12_again 8 = .ok (.iload_n 3, 1) := by decide +kernel
theorem dX12_again_9 : decode cX12_again 9 = .ok (.iload 4, 2) := by decide +kernel
theorem dX12_again_11 : decode cX12_again 11 = .ok (.invokevirtual 248, 3) := by decide +kernel
theorem dX12_again_14 : decode cX12_again 14 = .ok (.ifCond .ne 5, 3) := by decide +kernel
theorem dX12_again_17 : decode cX12_again 17 = .ok (.iconst (-1), 1) := by decide +kernel
theorem dX12_again_18 : decode cX12_again 18 = .ok (.ireturn, 1) := by decide +kernel
theorem dX12_again_19 : decode cX12_again 19 = .ok (.aload_n 0, 1) := by decide +kernel
theorem dX12_again_20 : decode cX12_again 20 = .ok (.iload_n 1, 1) := by decide +kernel
theorem dX12_again_21 : decode cX12_again 21 = .ok (.iload_n 2, 1) := by decide +kernel
theorem dX12_again_22 : decode cX12_again 22 = .ok (.invokevirtual 252, 3) := by decide +kernel
theorem dX12_again_25 : decode cX12_again 25 = .ok (.ifCond .ne 5, 3) := by decide +kernel
theorem dX12_again_28 : decode cX12_again 28 = .ok (.iconst 0, 1) := by decide +kernel
theorem dX12_again_29 : decode cX12_again 29 = .ok (.ireturn, 1) := by decide +kernel
theorem dX12_again_30 : decode cX12_again 30 = .ok (.bipush 100, 2) := by decide +kernel
theorem dX12_again_32 : decode cX12_again 32 = .ok (.istore 5, 2) := by decide +kernel
theorem dX12_again_34 : decode cX12_again 34 = .ok (.iconst 0, 1) := by decide +kernel
theorem dX12_again_35 : decode cX12_again 35 = .ok (.istore 6, 2) := by decide +kernel
theorem dX12_again_37 : decode cX12_again 37 = .ok (.iload 6, 2) := by decide +kernel
theorem dX12_again_39 : decode cX12_again 39 = .ok (.bipush 60, 2) := by decide +kernel
theorem dX12_again_41 : decode cX12_again 41 = .ok (.if_icmp .ge 56, 3) := by decide +kernel
theorem dX12_again_44 : decode cX12_again 44 = .ok (.aload_n 0, 1) := by decide +kernel
theorem dX12_again_45 : decode cX12_again 45 = .ok (.aload_n 0, 1) := by decide +kernel
theorem dX12_again_46 : decode cX12_again 46 = .ok (.getfield 239, 3) := by decide +kernel
theorem dX12_again_49 : decode cX12_again 49 = .ok (.iload 5, 2) := by decide +kernel
theorem dX12_again_51 : decode cX12_again 51 = .ok (.invokevirtual 226, 3) := by decide +kernel
theorem dX12_again_54 : decode cX12_again 54 = .ok (.aload_n 0, 1) := by decide +kernel
theorem dX12_again_55 : decode cX12_again 55 = .ok (.aload_n 0, 1) := by decide +kernel
theorem dX12_again_56 : decode cX12_again 56 = .ok (.iload_n 1, 1) := by decide +kernel
theorem dX12_again_57 : decode cX12_again 57 = .ok (.invokevirtual 255, 3) := by decide +kernel
theorem dX12_again_60 : decode cX12_again 60 = .ok (.iload_n 3, 1) := by decide +kernel
theorem dX12_again_61 : decode cX12_again 61 = .ok (.aload_n 0, 1) := by decide +kernel
theorem dX12_again_62 : decode cX12_again 62 = .ok (.iload_n 1, 1) := by decide +kernel
theorem dX12_again_63 : decode cX12_again 63 = .ok (.invokevirtual 270, 3) := by decide +kernel
theorem dX12_again_66 : decode cX12_again 66 = .ok (.invokevirtual 273, 3) := by decide +kernel
theorem dX12_again_69 : decode cX12_again 69 = .ok (.ifCond .ne 6, 3) := by decide +kernel
theorem dX12_again_72 : decode cX12_again 72 = .ok (.iload 6, 2) := by decide +kernel
theorem dX12_again_74 : decode cX12_again 74 = .ok (.ireturn, 1) := by decide +kernel
theorem dX12_again_75 : decode cX12_again 75 = .ok (.iload 5, 2) := by decide +kernel
theorem dX12_again_77 : decode cX12_again 77 = .ok (.aload_n 0, 1) := by decide +kernel
theorem dX12_again_78 : decode cX12_again 78 = .ok (.aload_n 0, 1) := by decide +kernel
theorem dX12_again_79 : decode cX12_again 79 = .ok (.getfield 239, 3) := by decide +kernel
theorem dX12_again_82 : decode cX12_again 82 = .ok (.invokevirtual 276, 3) := by decide +kernel
theorem dX12_again_85 : decode cX12_again 85 = .ok (.imul, 1) := by decide +kernel
theorem dX12_again_86 : decode cX12_again 86 = .ok (.bipush 100, 2) := by decide +kernel
theorem dX12_again_88 : decode cX12_again 88 = .ok (.idiv, 1) := by decide +kernel
theorem dX12_again_89 : decode cX12_again 89 = .ok (.istore 5, 2) := by decide +kernel
theorem dX12_again_91 : decode cX12_again 91 = .ok (.iinc 6 1, 3) := by decide +kernel
theorem dX12_again_94 : decode cX12_again 94 = .ok (.goto (-57), 3) := by decide +kernel
theorem dX12_again_97 : decode cX12_again 97 = .ok (.iload 6, 2) := by decide +kernel
theorem dX12_again_99 : decode cX12_again 99 = .ok (.ireturn, 1) := by decide +kernel
theorem dX12_breaks_0 : decode cX12_breaks 0 = .ok (.aload_n 0, 1) := by decide +kernel
theorem dX12_breaks_1 : decode cX12_breaks 1 = .ok (.iconst 0, 1) := by decide +kernel
theorem dX12_breaks_2 : decode cX12_breaks 2 = .ok (.putfield 55, 3) := by decide +kernel
theorem dX12_breaks_5 : decode cX12_breaks 5 = .ok (.aload_n 0, 1) := by decide +kernel
theorem dX12_breaks_6 : decode cX12_breaks 6 = .ok (.iconst 1, 1) := by decide +kernel
theorem dX12_breaks_7 : decode cX12_breaks 7 = .ok (.iload_n 1, 1) := by decide +kernel
theorem dX12_breaks_8 : decode cX12_breaks 8 = .ok (.iload_n 2, 1) := by decide +kernel
theorem dX12_breaks_9 : decode cX12_breaks 9 = .ok (.invokevirtual 223, 3) := by decide +kernel
theorem dX12_breaks_12 : decode cX12_breaks 12 = .ok (.ifCond .ne 6, 3) := by decide +kernel
theorem dX12_breaks_15 : decode cX12_breaks 15 = .ok (.bipush (-2), 2) := by decide +kernel
theorem dX12_breaks_17 : decode cX12_breaks 17 = .ok (.ireturn, 1) := by decide +kernel
theorem dX12_breaks_18 : decode cX12_breaks 18 = .ok (.iconst 0, 1) := by decide +kernel
theorem dX12_breaks_19 : decode cX12_breaks 19 = .ok (.istore_n 3, 1) := by decide +kernel
theorem dX12_breaks_20 : decode cX12_breaks 20 = .ok (.iload_n 3, 1) := by decide +kernel
theorem dX12_breaks_21 : decode cX12_breaks 21 = .ok (.bipush 6, 2) := by decide +kernel
theorem dX12_breaks_23 : decode cX12_breaks 23 = .ok (.if_icmp .ge 17, 3) := by decide +kernel
theorem dX12_breaks_26 : decode cX12_breaks 26 = .ok (.aload_n 0, 1) := by decide +kernel
theorem dX12_breaks_27 : decode cX12_breaks 27 = .ok (.getfield 33, 3) := by decide +kernel
theorem dX12_breaks_30 : decode cX12_breaks 30 = .ok (.iload_n 3, 1) := by decide +kernel
theorem dX12_breaks_31 : decode cX12_breaks 31 = .ok (.bipush 100, 2) := by decide +kernel
theorem dX12_breaks_33 : decode cX12_breaks 33 = .ok (.iastore, 1) := by decide +kernel
theorem dX12_breaks_34 : decode cX12_breaks 34 = .ok (.iinc 3 1, 3) := by decide +kernel
theorem dX12_breaks_37 : decode cX12_breaks 37 = .ok (.goto (-17), 3) := by decide +kernel
theorem dX12_breaks_40 : decode cX12_breaks 40 = .ok (.iconst 0, 1) := by decide +kernel
theorem dX12_breaks_41 : decode cX12_breaks 41 = .ok (.istore_n 3, 1) := by decide +kernel
theorem dX12_breaks_42 : decode cX12_breaks 42 = .ok (.iload_n 3, 1) := by decide +kernel
theorem dX12_breaks_43 : decode cX12_breaks 43 = .ok (.aload_n 0, 1) := by decide +kernel
theorem dX12_breaks_44 : decode cX12_breaks 44 = .ok (.iconst 3, 1) := by decide +kernel
theorem dX12_breaks_45 : decode cX12_breaks 45 = .ok (.invokevirtual 217, 3) := by decide +kernel
theorem dX12_breaks_48 : decode cX12_breaks 48 = .ok (.if_icmp .ge 158, 3) := by decide +kernel
theorem dX12_breaks_51 : decode cX12_breaks 51 = .ok (.sipush 404, 3) := by decide +kernel
theorem dX12_breaks_54 : decode cX12_breaks 54 = .ok (.iconst 4, 1) := by decide +kernel
theorem dX12_breaks_55 : decode cX12_breaks 55 = .ok (.iload_n 3, 1) := by decide +kernel
theorem dX12_breaks_56 : decode cX12_breaks 56 = .ok (.imul, 1) := by decide +kernel
theorem dX12_breaks_57 : decode cX12_breaks 57 = .ok (.iadd, 1) := by decide +kernel
theorem dX12_breaks_58 : decode cX12_breaks 58 = .ok (.istore 4, 2) := by decide +kernel
theorem dX12_breaks_60 : decode cX12_breaks 60 = .ok (.aload_n 0, 1) := by decide +kernel
theorem dX12_breaks_61 : decode cX12_breaks 61 = .ok (.iload 4, 2) := by decide +kernel
theorem dX12_breaks_63 : decode cX12_breaks 63 = .ok (.invokevirtual 217, 3) := by decide +kernel
theorem dX12_breaks_66 : decode cX12_breaks 66 = .ok (.iload_n 1, 1) := by decide +kernel
theorem dX12_breaks_67 : decode cX12_breaks 67 = .ok (.if_icmp .eq 6, 3) := by decide +kernel
theorem dX12_breaks_70 : decode cX12_breaks 70 = .ok (.goto 130, 3) := by decide +kernel
theorem dX12_breaks_73 : decode cX12_breaks 73 = .ok (.aload_n 0, 1) := by decide +kernel
theorem dX12_breaks_74 : decode cX12_breaks 74 = .ok (.iload 4, 2) := by decide +kernel
theorem dX12_breaks_76 : decode cX12_breaks 76 = .ok (.iconst 1, 1) := by decide +kernel
theorem dX12_breaks_77 : decode cX12_breaks 77 = .ok (.iadd, 1) := by decide +kernel
theorem dX12_breaks_78 : decode cX12_breaks 78 = .ok (.invokevirtual 217, 3) := by decide +kernel
theorem dX12_breaks_81 : decode cX12_breaks 81 = .ok (.istore 5, 2) := by decide +kernel
theorem dX12_breaks_83 : decode cX12_breaks 83 = .ok (.iconst 1, 1) := by decide +kernel
theorem dX12_breaks_84 : decode cX12_breaks 84 = .ok (.istore 6, 2) := by decide +kernel
theorem dX12_breaks_86 : decode cX12_breaks 86 = .ok (.iload 6, 2) := by decide +kernel
theorem dX12_breaks_88 : decode cX12_breaks 88 = .ok (.aload_n 0, 1) := by decide +kernel
theorem dX12_breaks_89 : decode cX12_breaks 89 = .ok (.iload 4, 2) := by decide +kernel
theorem dX12_breaks_91 : decode cX12_breaks 91 = .ok (.iconst 3, 1) := by decide +kernel
theorem dX12_breaks_92 : decode cX12_breaks 92 = .ok (.iadd, 1) := by decide +kernel
theorem dX12_breaks_93 : decode cX12_breaks 93 = .ok (.invokevirtual 217, 3) := by decide +kernel
theorem dX12_breaks_96 : decode cX12_breaks 96 = .ok (.if_icmp .gt 104, 3) := by decide +kernel
theorem dX12_breaks_99 : decode cX12_breaks 99 = .ok (.aload_n 0, 1) := by decide +kernel
theorem dX12_breaks_100 : decode cX12_breaks 100 = .ok (.iload_n 1, 1) := by decide +kernel
theorem dX12_breaks_101 : decode cX12_breaks 101 = .ok (.iload 5, 2) := by decide +kernel
theorem dX12_breaks_103 : decode cX12_breaks 103 = .ok (.invokevirtual 252, 3) := by decide +kernel
theorem dX12_breaks_106 : decode cX12_breaks 106 = .ok (.istore 7, 2) := by decide +kernel
theorem dX12_breaks_108 : decode cX12_breaks 108 = .ok (.iload 7, 2) := by decide +kernel
theorem dX12_breaks_110 : decode cX12_breaks 110 = .ok (.ifCond .eq 68, 3) := by decide +kernel
theorem dX12_breaks_113 : decode cX12_breaks 113 = .ok (.aload_n 0, 1) := by decide +kernel
theorem dX12_breaks_114 : decode cX12_breaks 114 = .ok (.aload_n 0, 1) := by decide +kernel
theorem dX12_breaks_115 : decode cX12_breaks 115 = .ok (.getfield 239, 3) := by decide +kernel
theorem dX12_breaks_118 : decode cX12_breaks 118 = .ok (.aload_n 0, 1) := by decide +kernel
theorem dX12_breaks_119 : decode cX12_breaks 119 = .ok (.getfield 33, 3) := by decide +kernel
theorem dX12_breaks_122 : decode cX12_breaks 122 = .ok (.iload 5, 2) := by decide +kernel
theorem dX12_breaks_124 : decode cX12_breaks 124 = .ok (.iaload, 1) := by decide +kernel
theorem dX12_breaks_125 : decode cX12_breaks 125 = .ok (.invokevirtual 226, 3) := by decide +kernel
theorem dX12_breaks_128 : decode cX12_breaks 128 = .ok (.aload_n 0, 1) := by decide +kernel
theorem dX12_breaks_129 : decode cX12_breaks 129 = .ok (.aload_n 0, 1) := by decide +kernel
theorem dX12_breaks_130 : decode cX12_breaks 130 = .ok (.iload_n 1, 1) := by decide +kernel
theorem dX12_breaks_131 : decode cX12_breaks 131 = .ok (.invokevirtual 255, 3) := by decide +kernel
theorem dX12_breaks_134 : decode cX12_breaks 134 = .ok (.aload_n 0, 1) := by decide +kernel
theorem dX12_breaks_135 : decode cX12_breaks 135 = .ok (.iload 4, 2) := by decide +kernel
theorem dX12_breaks_137 : decode cX12_breaks 137 = .ok (.iconst 2, 1) := by decide +kernel
theorem dX12_breaks_138 : decode cX12_breaks 138 = .ok (.iadd, 1) := by decide +kernel
theorem dX12_breaks_139 : decode cX12_breaks 139 = .ok (.invokevirtual 217, 3) := by decide +kernel
theorem dX12_breaks_142 : decode cX12_breaks 142 = .ok (.aload_n 0, 1) := by decide +kernel
theorem dX12_breaks_143 : decode cX12_breaks 143 = .ok (.iload_n 1, 1) := by decide +kernel
theorem dX12_breaks_144 : decode cX12_breaks 144 = .ok (.invokevirtual 270, 3) := by decide +kernel
theorem dX12_breaks_147 : decode cX12_breaks 147 = .ok (.invokevirtual 273, 3) := by decide +kernel
theorem dX12_breaks_150 : decode cX12_breaks 150 = .ok (.istore 7, 2) := by decide +kernel
theorem dX12_breaks_152 : decode cX12_breaks 152 = .ok (.aload_n 0, 1) := by decide +kernel
theorem dX12_breaks_153 : decode cX12_breaks 153 = .ok (.getfield 33, 3) := by decide +kernel
theorem dX12_breaks_156 : decode cX12_breaks 156 = .ok (.iload 5, 2) := by decide +kernel
theorem dX12_breaks_158 : decode cX12_breaks 158 = .ok (.aload_n 0, 1) := by decide +kernel
theorem dX12_breaks_159 : decode cX12_breaks 159 = .ok (.getfield 33, 3) := by decide +kernel
theorem dX12_breaks_162 : decode cX12_breaks 162 = .ok (.iload 5, 2) := by decide +kernel
theorem dX12_breaks_164 : decode cX12_breaks 164 = .ok (.iaload, 1) := by decide +kernel
theorem dX12_breaks_165 : decode cX12_breaks 165 = .ok (.aload_n 0, 1) := by decide +kernel
theorem dX12_breaks_166 : decode cX12_breaks 166 = .ok (.aload_n 0, 1) := by decide +kernel
theorem dX12_breaks_167 : decode cX12_breaks 167 = .ok (.getfield 239, 3) := by decide +kernel
theorem dX12_breaks_170 : decode cX12_breaks 170 = .ok (.invokevirtual 276, 3) := by decide +kernel
theorem dX12_breaks_173 : decode cX12_breaks 173 = .ok (.imul, 1) := by decide +kernel
theorem dX12_breaks_174 : decode cX12_breaks 174 = .ok (.bipush 100, 2) := by decide +kernel
theorem dX12_breaks_176 : decode cX12_breaks 176 = .ok (.idiv, 1) := by decide +kernel
theorem dX12_breaks_177 : decode cX12_breaks 177 = .ok (.iastore, 1) := by decide +kernel
theorem dX12_breaks_178 : decode cX12_breaks 178 = .ok (.iload 7, 2) := by decide +kernel
theorem dX12_breaks_180 : decode cX12_breaks 180 = .ok (.ifCond .eq 6, 3) := by decide +kernel
theorem dX12_breaks_183 : decode cX12_breaks 183 = .ok (.goto 11, 3) := by decide +kernel
theorem dX12_breaks_186 : decode cX12_breaks 186 = .ok (.aload_n 0, 1) := by decide +kernel
theorem dX12_breaks_187 : decode cX12_breaks 187 = .ok (.iload 6, 2) := by decide +kernel
theorem dX12_breaks_189 : decode cX12_breaks 189 = .ok (.putfield 29, 3) := by decide +kernel
theorem dX12_breaks_192 : decode cX12_breaks 192 = .ok (.iload_n 3, 1) := by decide +kernel
theorem dX12_breaks_193 : decode cX12_breaks 193 = .ok (.ireturn, 1) := by decide +kernel
theorem dX12_breaks_194 : decode cX12_breaks 194 = .ok (.iinc 6 1, 3) := by decide +kernel
theorem dX12_breaks_197 : decode cX12_breaks 197 = .ok (.goto (-111), 3) := by decide +kernel
theorem dX12_breaks_200 : decode cX12_breaks 200 = .ok (.iinc 3 1, 3) := by decide +kernel
theorem dX12_breaks_203 : decode cX12_breaks 203 = .ok (.goto (-161), 3) := by decide +kernel
theorem dX12_breaks_206 : decode cX12_breaks 206 = .ok (.iconst (-1), 1) := by decide +kernel
theorem dX12_breaks_207 : decode cX12_breaks 207 = .ok (.ireturn, 1) := by decide +kernel
theorem dX12_breaksAt_0 : decode cX12_breaksAt 0 = .ok (.aload_n 0, 1) := by decide +kernel
theorem dX12_breaksAt_1 : decode cX12_breaksAt 1 = .ok (.iconst 0, 1) := by decide +kernel
theorem dX12_breaksAt_2 : decode cX12_breaksAt 2 = .ok (.putfield 55, 3) := by decide +kernel
theorem dX12_breaksAt_5 : decode cX12_breaksAt 5 = .ok (.aload_n 0, 1) := by decide +kernel
theorem dX12_breaksAt_6 : decode cX12_breaksAt 6 = .ok (.getfield 29, 3) := by decide +kernel
theorem dX12_breaksAt_9 : decode cX12_breaksAt 9 = .ok (.ireturn, 1) := by decide +kernel
theorem dX12_spans_0 : decode cX12_spans 0 = .ok (.aload_n 0, 1) := by decide +kernel
theorem dX12_spans_1 : decode cX12_spans 1 = .ok (.iconst 0, 1) := by decide +kernel
theorem dX12_spans_2 : decode cX12_spans 2 = .ok (.putfield 55, 3) := by decide +kernel
theorem dX12_spans_5 : decode cX12_spans 5 = .ok (.aload_n 0, 1) := by decide +kernel
theorem dX12_spans_6 : decode cX12_spans 6 = .ok (.invokevirtual 201, 3) := by decide +kernel
theorem dX12_spans_9 : decode cX12_spans 9 = .ok (.istore 5, 2) := by decide +kernel
theorem dX12_spans_11 : decode cX12_spans 11 = .ok (.iload 5, 2) := by decide +kernel
theorem dX12_spans_13 : decode cX12_spans 13 = .ok (.iconst 4, 1) := by decide +kernel
theorem dX12_spans_14 : decode cX12_spans 14 = .ok (.if_icmp .ne 15, 3) := by decide +kernel
theorem dX12_spans_17 : decode cX12_spans 17 = .ok (.aload_n 0, 1) := by decide +kernel
theorem dX12_spans_18 : decode cX12_spans 18 = .ok (.iload_n 1, 1) := by decide +kernel
theorem dX12_spans_19 : decode cX12_spans 19 = .ok (.iload_n 2, 1) := by decide +kernel
theorem dX12_spans_20 : decode cX12_spans 20 = .ok (.iload_n 3, 1) := by decide +kernel
theorem dX12_spans_21 : decode cX12_spans 21 = .ok (.iload 4, 2) := by decide +kernel
theorem dX12_spans_23 : decode cX12_spans 23 = .ok (.invokevirtual 248, 3) := by decide +kernel
theorem dX12_spans_26 : decode cX12_spans 26 = .ok (.ifCond .ne 5, 3) := by decide +kernel
theorem dX12_spans_29 : decode cX12_spans 29 = .ok (.iconst (-1), 1) := by decide +kernel
theorem dX12_spans_30 : decode cX12_spans 30 = .ok (.ireturn, 1) := by decide +kernel
theorem dX12_spans_31 : decode cX12_spans 31 = .ok (.aload_n 0, 1) := by decide +kernel
theorem dX12_spans_32 : decode cX12_spans 32 = .ok (.getfield 7, 3) := by decide +kernel
theorem dX12_spans_35 : decode cX12_spans 35 = .ok (.iconst 0, 1) := by decide +kernel
theorem dX12_spans_36 : decode cX12_spans 36 = .ok (.iaload, 1) := by decide +kernel
theorem dX12_spans_37 : decode cX12_spans 37 = .ok (.iconst 1, 1) := by decide +kernel
theorem dX12_spans_38 : decode cX12_spans 38 = .ok (.aload_n 0, 1) := by decide +kernel
theorem dX12_spans_39 : decode cX12_spans 39 = .ok (.getfield 7, 3) := by decide +kernel
theorem dX12_spans_42 : decode cX12_spans 42 = .ok (.iconst 1, 1) := by decide +kernel
theorem dX12_spans_43 : decode cX12_spans 43 = .ok (.iaload, 1) := by decide +kernel
theorem dX12_spans_44 : decode cX12_spans 44 = .ok (.invokestatic 65, 3) := by decide +kernel
theorem dX12_spans_47 : decode cX12_spans 47 = .ok (.ifCond .eq 46, 3) := by decide +kernel
theorem dX12_spans_50 : decode cX12_spans 50 = .ok (.aload_n 0, 1) := by decide +kernel
theorem dX12_spans_51 : decode cX12_spans 51 = .ok (.getfield 7, 3) := by decide +kernel
theorem dX12_spans_54 : decode cX12_spans 54 = .ok (.iconst 1, 1) := by decide +kernel
theorem dX12_spans_55 : decode cX12_spans 55 = .ok (.iaload, 1) := by decide +kernel
theorem dX12_spans_56 : decode cX12_spans 56 = .ok (.sipush 200, 3) := by decide +kernel
theorem dX12_spans_59 : decode cX12_spans 59 = .ok (.if_icmp .gt 34, 3) := by decide +kernel
theorem dX12_spans_62 : decode cX12_spans 62 = .ok (.aload_n 0, 1) := by decide +kernel
theorem dX12_spans_63 : decode cX12_spans 63 = .ok (.getfield 7, 3) := by decide +kernel
theorem dX12_spans_66 : decode cX12_spans 66 = .ok (.iconst 2, 1) := by decide +kernel
theorem dX12_spans_67 : decode cX12_spans 67 = .ok (.iaload, 1) := by decide +kernel
theorem dX12_spans_68 : decode cX12_spans 68 = .ok (.iconst 1, 1) := by decide +kernel
theorem dX12_spans_69 : decode cX12_spans 69 = .ok (.aload_n 0, 1) := by decide +kernel
theorem dX12_spans_70 : decode cX12_spans 70 = .ok (.getfield 7, 3) := by decide +kernel
theorem dX12_spans_73 : decode cX12_spans 73 = .ok (.iconst 3, 1) := by decide +kernel
theorem dX12_spans_74 : decode cX12_spans 74 = .ok (.iaload, 1) := by decide +kernel
theorem dX12_spans_75 : decode cX12_spans 75 = .ok (.invokestatic 65, 3) := by decide +kernel
theorem dX12_spans_78 : decode cX12_spans 78 = .ok (.ifCond .eq 15, 3) := by decide +kernel
theorem dX12_spans_81 : decode cX12_spans 81 = .ok (.aload_n 0, 1) := by decide +kernel
theorem dX12_spans_82 : decode cX12_spans 82 = .ok (.getfield 7, 3) := by decide +kernel
theorem dX12_spans_85 : decode cX12_spans 85 = .ok (.iconst 3, 1) := by decide +kernel
theorem dX12_spans_86 : decode cX12_spans 86 = .ok (.iaload, 1) := by decide +kernel
theorem dX12_spans_87 : decode cX12_spans 87 = .ok (.sipush 200, 3) := by decide +kernel
theorem dX12_spans_90 : decode cX12_spans 90 = .ok (.if_icmp .le 5, 3) := by decide +kernel
theorem dX12_spans_93 : decode cX12_spans 93 = .ok (.iconst (-1), 1) := by decide +kernel
theorem dX12_spans_94 : decode cX12_spans 94 = .ok (.ireturn, 1) := by decide +kernel
theorem dX12_spans_95 : decode cX12_spans 95 = .ok (.aload_n 0, 1) := by decide +kernel
theorem dX12_spans_96 : decode cX12_spans 96 = .ok (.iload_n 1, 1) := by decide +kernel
theorem dX12_spans_97 : decode cX12_spans 97 = .ok (.iload_n 2, 1) := by decide +kernel
theorem dX12_spans_98 : decode cX12_spans 98 = .ok (.invokevirtual 252, 3) := by decide +kernel
theorem dX12_spans_101 : decode cX12_spans 101 = .ok (.ifCond .ne 5, 3) := by decide +kernel
theorem dX12_spans_104 : decode cX12_spans 104 = .ok (.iconst 0, 1) := by decide +kernel
theorem dX12_spans_105 : decode cX12_spans 105 = .ok (.ireturn, 1) := by decide +kernel
theorem dX12_spans_106 : decode cX12_spans 106 = .ok (.iconst 0, 1) := by decide +kernel
theorem dX12_spans_107 : decode cX12_spans 107 = .ok (.istore 6, 2) := by decide +kernel
theorem dX12_spans_109 : decode cX12_spans 109 = .ok (.aload_n 0, 1) := by decide +kernel
theorem dX12_spans_110 : decode cX12_spans 110 = .ok (.getfield 7, 3) := by decide +kernel
theorem dX12_spans_113 : decode cX12_spans 113 = .ok (.iconst 2, 1) := by decide +kernel
theorem dX12_spans_114 : decode cX12_spans 114 = .ok (.iaload, 1) := by decide +kernel
theorem dX12_spans_115 : decode cX12_spans 115 = .ok (.istore 7, 2) := by decide +kernel
theorem dX12_spans_117 : decode cX12_spans 117 = .ok (.iload 7, 2) := by decide +kernel
theorem dX12_spans_119 : decode cX12_spans 119 = .ok (.aload_n 0, 1) := by decide +kernel
theorem dX12_spans_120 : decode cX12_spans 120 = .ok (.getfield 7, 3) := by decide +kernel
theorem dX12_spans_123 : decode cX12_spans 123 = .ok (.iconst 3, 1) := by decide +kernel
theorem dX12_spans_124 : decode cX12_spans 124 = .ok (.iaload, 1) := by decide +kernel
theorem dX12_spans_125 : decode cX12_spans 125 = .ok (.if_icmp .gt 85, 3) := by decide +kernel
theorem dX12_spans_128 : decode cX12_spans 128 = .ok (.aload_n 0, 1) := by decide +kernel
theorem dX12_spans_129 : decode cX12_spans 129 = .ok (.aload_n 0, 1) := by decide +kernel
theorem dX12_spans_130 : decode cX12_spans 130 = .ok (.getfield 239, 3) := by decide +kernel
theorem dX12_spans_133 : decode cX12_spans 133 = .ok (.iload 7, 2) := by decide +kernel
theorem dX12_spans_135 : decode cX12_spans 135 = .ok (.invokevirtual 226, 3) := by decide +kernel
theorem dX12_spans_138 : decode cX12_spans 138 = .ok (.aload_n 0, 1) := by decide +kernel
theorem dX12_spans_139 : decode cX12_spans 139 = .ok (.getfield 7, 3) := by decide +kernel
theorem dX12_spans_142 : decode cX12_spans 142 = .ok (.iconst 0, 1) := by decide +kernel
theorem dX12_spans_143 : decode cX12_spans 143 = .ok (.iaload, 1) := by decide +kernel
theorem dX12_spans_144 : decode cX12_spans 144 = .ok (.istore 8, 2) := by decide +kernel
theorem dX12_spans_146 : decode cX12_spans 146 = .ok (.iload 8, 2) := by decide +kernel
theorem dX12_spans_148 : decode cX12_spans 148 = .ok (.aload_n 0, 1) := by decide +kernel
theorem dX12_spans_149 : decode cX12_spans 149 = .ok (.getfield 7, 3) := by decide +kernel
theorem dX12_spans_152 : decode cX12_spans 152 = .ok (.iconst 1, 1) := by decide +kernel
theorem dX12_spans_153 : decode cX12_spans 153 = .ok (.iaload, 1) := by decide +kernel
theorem dX12_spans_154 : decode cX12_spans 154 = .ok (.if_icmp .gt 50, 3) := by decide +kernel
theorem dX12_spans_157 : decode cX12_spans 157 = .ok (.aload_n 0, 1) := by decide +kernel
theorem dX12_spans_158 : decode cX12_spans 158 = .ok (.iload_n 1, 1) := by decide +kernel
theorem dX12_spans_159 : decode cX12_spans 159 = .ok (.invokevirtual 255, 3) := by decide +kernel
theorem dX12_spans_162 : decode cX12_spans 162 = .ok (.iload 8, 2) := by decide +kernel
theorem dX12_spans_164 : decode cX12_spans 164 = .ok (.imul, 1) := by decide +kernel
theorem dX12_spans_165 : decode cX12_spans 165 = .ok (.bipush 100, 2) := by decide +kernel
theorem dX12_spans_167 : decode cX12_spans 167 = .ok (.idiv, 1) := by decide +kernel
theorem dX12_spans_168 : decode cX12_spans 168 = .ok (.istore 9, 2) := by decide +kernel
theorem dX12_spans_170 : decode cX12_spans 170 = .ok (.aload_n 0, 1) := by decide +kernel
theorem dX12_spans_171 : decode cX12_spans 171 = .ok (.iload 9, 2) := by decide +kernel
theorem dX12_spans_173 : decode cX12_spans 173 = .ok (.iconst 1, 1) := by decide +kernel
theorem dX12_spans_174 : decode cX12_spans 174 = .ok (.if_icmp .ge 7, 3) := by decide +kernel
theorem dX12_spans_177 : decode cX12_spans 177 = .ok (.iconst 1, 1) := by decide +kernel
theorem dX12_spans_178 : decode cX12_spans 178 = .ok (.goto 5, 3) := by decide +kernel
theorem dX12_spans_181 : decode cX12_spans 181 = .ok (.iload 9, 2) := by decide +kernel
theorem dX12_spans_183 : decode cX12_spans 183 = .ok (.iload_n 3, 1) := by decide +kernel
theorem dX12_spans_184 : decode cX12_spans 184 = .ok (.aload_n 0, 1) := by decide +kernel
theorem dX12_spans_185 : decode cX12_spans 185 = .ok (.iload_n 1, 1) := by decide +kernel
theorem dX12_spans_186 : decode cX12_spans 186 = .ok (.invokevirtual 270, 3) := by decide +kernel
theorem dX12_spans_189 : decode cX12_spans 189 = .ok (.invokevirtual 273, 3) := by decide +kernel
theorem dX12_spans_192 : decode cX12_spans 192 = .ok (.ifCond .eq 6, 3) := by decide +kernel
theorem dX12_spans_195 : decode cX12_spans 195 = .ok (.iinc 6 1, 3) := by decide +kernel
theorem dX12_spans_198 : decode cX12_spans 198 = .ok (.iinc 8 1, 3) := by decide +kernel
theorem dX12_spans_201 : decode cX12_spans 201 = .ok (.goto (-55), 3) := by decide +kernel
theorem dX12_spans_204 : decode cX12_spans 204 = .ok (.iinc 7 1, 3) := by decide +kernel
theorem dX12_spans_207 : decode cX12_spans 207 = .ok (.goto (-90), 3) := by decide +kernel
theorem dX12_spans_210 : decode cX12_spans 210 = .ok (.iload 6, 2) := by decide +kernel
theorem dX12_spans_212 : decode cX12_spans 212 = .ok (.ireturn, 1) := by decide +kernel
theorem dX12_highest_0 : decode cX12_highest 0 = .ok (.aload_n 0, 1) := by decide +kernel
theorem dX12_highest_1 : decode cX12_highest 1 = .ok (.iconst 0, 1) := by decide +kernel
theorem dX12_highest_2 : decode cX12_highest 2 = .ok (.putfield 55, 3) := by decide +kernel
theorem dX12_highest_5 : decode cX12_highest 5 = .ok (.aload_n 0, 1) := by decide +kernel
theorem dX12_highest_6 : decode cX12_highest 6 = .ok (.iload_n 1, 1) := by decide +kernel
theorem dX12_highest_7 : decode cX12_highest 7 = .ok (.iload_n 2, 1) := by decide +kernel
theorem dX12_highest_8 : decode cX12_highest 8 = .ok (.iconst 0, 1) := by decide +kernel
theorem dX12_highest_9 : decode cX12_highest 9 = .ok (.iload_n 3, 1) := by decide +kernel
theorem dX12_highest_10 : decode cX12_highest 10 = .ok (.invokevirtual 248, 3) := by decide +kernel
theorem dX12_highest_13 : decode cX12_highest 13 = .ok (.ifCond .eq 12, 3) := by decide +kernel
theorem dX12_highest_16 : decode cX12_highest 16 = .ok (.aload_n 0, 1) := by decide +kernel
theorem dX12_highest_17 : decode cX12_highest 17 = .ok (.iload_n 1, 1) := by decide +kernel
theorem dX12_highest_18 : decode cX12_highest 18 = .ok (.iload_n 2, 1) := by decide +kernel
theorem dX12_highest_19 : decode cX12_highest 19 = .ok (.invokevirtual 252, 3) := by decide +kernel
theorem dX12_highest_22 : decode cX12_highest 22 = .ok (.ifCond .ne 5, 3) := by decide +kernel
theorem dX12_highest_25 : decode cX12_highest 25 = .ok (.iconst (-1), 1) := by decide +kernel
theorem dX12_highest_26 : decode cX12_highest 26 = .ok (.ireturn, 1) := by decide +kernel
theorem dX12_highest_27 : decode cX12_highest 27 = .ok (.aload_n 0, 1) := by decide +kernel
theorem dX12_highest_28 : decode cX12_highest 28 = .ok (.aload_n 0, 1) := by decide +kernel
theorem dX12_highest_29 : decode cX12_highest 29 = .ok (.getfield 239, 3) := by decide +kernel
theorem dX12_highest_32 : decode cX12_highest 32 = .ok (.bipush 100, 2) := by decide +kernel
theorem dX12_highest_34 : decode cX12_highest 34 = .ok (.invokevirtual 226, 3) := by decide +kernel
theorem dX12_highest_37 : decode cX12_highest 37 = .ok (.iconst (-1), 1) := by decide +kernel
theorem dX12_highest_38 : decode cX12_highest 38 = .ok (.istore 4, 2) := by decide +kernel
theorem dX12_highest_40 : decode cX12_highest 40 = .ok (.sipush 30001, 3) := by decide +kernel
theorem dX12_highest_43 : decode cX12_highest 43 = .ok (.istore 5, 2) := by decide +kernel
theorem dX12_highest_45 : decode cX12_highest 45 = .ok (.iload 5, 2) := by decide +kernel
theorem dX12_highest_47 : decode cX12_highest 47 = .ok (.iload 4, 2) := by decide +kernel
theorem dX12_highest_49 : decode cX12_highest 49 = .ok (.isub, 1) := by decide +kernel
theorem dX12_highest_50 : decode cX12_highest 50 = .ok (.iconst 1, 1) := by decide +kernel
theorem dX12_highest_51 : decode cX12_highest 51 = .ok (.if_icmp .le 52, 3) := by decide +kernel
theorem dX12_highest_54 : decode cX12_highest 54 = .ok (.iload 4, 2) := by decide +kernel
theorem dX12_highest_56 : decode cX12_highest 56 = .ok (.iload 5, 2) := by decide +kernel
theorem dX12_highest_58 : decode cX12_highest 58 = .ok (.iadd, 1) := by decide +kernel
theorem dX12_highest_59 : decode cX12_highest 59 = .ok (.iconst 2, 1) := by decide +kernel
theorem dX12_highest_60 : decode cX12_highest 60 = .ok (.idiv, 1) := by decide +kernel
theorem dX12_highest_61 : decode cX12_highest 61 = .ok (.istore 6, 2) := by decide +kernel
theorem dX12_highest_63 : decode cX12_highest 63 = .ok (.iload 6, 2) := by decide +kernel
theorem dX12_highest_65 : decode cX12_highest 65 = .ok (.iload 4, 2) := by decide +kernel
theorem dX12_highest_67 : decode cX12_highest 67 = .ok (.if_icmp .le 29, 3) := by decide +kernel
theorem dX12_highest_70 : decode cX12_highest 70 = .ok (.aload_n 0, 1) := by decide +kernel
theorem dX12_highest_71 : decode cX12_highest 71 = .ok (.aload_n 0, 1) := by decide +kernel
theorem dX12_highest_72 : decode cX12_highest 72 = .ok (.iload_n 1, 1) := by decide +kernel
theorem dX12_highest_73 : decode cX12_highest 73 = .ok (.invokevirtual 255, 3) := by decide +kernel
theorem dX12_highest_76 : decode cX12_highest 76 = .ok (.iload 6, 2) := by decide +kernel
theorem dX12_highest_78 : decode cX12_highest 78 = .ok (.aload_n 0, 1) := by decide +kernel
theorem dX12_highest_79 : decode cX12_highest 79 = .ok (.iload_n 1, 1) := by decide +kernel
theorem dX12_highest_80 : decode cX12_highest 80 = .ok (.invokevirtual 270, 3) := by decide +kernel
theorem dX12_highest_83 : decode cX12_highest 83 = .ok (.invokevirtual 273, 3) := by decide +kernel
theorem dX12_highest_86 : decode cX12_highest 86 = .ok (.ifCond .eq 10, 3) := by decide +kernel
theorem dX12_highest_89 : decode cX12_highest 89 = .ok (.iload 6, 2) := by decide +kernel
theorem dX12_highest_91 : decode cX12_highest 91 = .ok (.istore 4, 2) := by decide +kernel
theorem dX12_highest_93 : decode cX12_highest 93 = .ok (.goto 7, 3) := by decide +kernel
theorem dX12_highest_96 : decode cX12_highest 96 = .ok (.iload 6, 2) := by decide +kernel
theorem dX12_highest_98 : decode cX12_highest 98 = .ok (.istore 5, 2) := by decide +kernel
theorem dX12_highest_100 : decode cX12_highest 100 = .ok (.goto (-55), 3) := by decide +kernel
theorem dX12_highest_103 : decode cX12_highest 103 = .ok (.iload 4, 2) := by decide +kernel
theorem dX12_highest_105 : decode cX12_highest 105 = .ok (.ireturn, 1) := by decide +kernel
theorem dX12_above_0 : decode cX12_above 0 = .ok (.iconst (-1), 1) := by decide +kernel
theorem dX12_above_1 : decode cX12_above 1 = .ok (.istore_n 3, 1) := by decide +kernel
theorem dX12_above_2 : decode cX12_above 2 = .ok (.sipush 30001, 3) := by decide +kernel
theorem dX12_above_5 : decode cX12_above 5 = .ok (.istore 4, 2) := by decide +kernel
theorem dX12_above_7 : decode cX12_above 7 = .ok (.iload 4, 2) := by decide +kernel
theorem dX12_above_9 : decode cX12_above 9 = .ok (.iload_n 3, 1) := by decide +kernel
theorem dX12_above_10 : decode cX12_above 10 = .ok (.isub, 1) := by decide +kernel
theorem dX12_above_11 : decode cX12_above 11 = .ok (.iconst 1, 1) := by decide +kernel
theorem dX12_above_12 : decode cX12_above 12 = .ok (.if_icmp .le 69, 3) := by decide +kernel
theorem dX12_above_15 : decode cX12_above 15 = .ok (.iload_n 3, 1) := by decide +kernel
theorem dX12_above_16 : decode cX12_above 16 = .ok (.iload 4, 2) := by decide +kernel
theorem dX12_above_18 : decode cX12_above 18 = .ok (.iload_n 3, 1) := by decide +kernel
theorem dX12_above_19 : decode cX12_above 19 = .ok (.isub, 1) := by decide +kernel
theorem dX12_above_20 : decode cX12_above 20 = .ok (.iconst 2, 1) := by decide +kernel
theorem dX12_above_21 : decode cX12_above 21 = .ok (.idiv, 1) := by decide +kernel
theorem dX12_above_22 : decode cX12_above 22 = .ok (.iadd, 1) := by decide +kernel
theorem dX12_above_23 : decode cX12_above 23 = .ok (.istore 5, 2) := by decide +kernel
theorem dX12_above_25 : decode cX12_above 25 = .ok (.aload_n 0, 1) := by decide +kernel
theorem dX12_above_26 : decode cX12_above 26 = .ok (.iload_n 1, 1) := by decide +kernel
theorem dX12_above_27 : decode cX12_above 27 = .ok (.i2l, 1) := by decide +kernel
theorem dX12_above_28 : decode cX12_above 28 = .ok (.iload 5, 2) := by decide +kernel
theorem dX12_above_30 : decode cX12_above 30 = .ok (.i2l, 1) := by decide +kernel
theorem dX12_above_31 : decode cX12_above 31 = .ok (.aload_n 0, 1) := by decide +kernel
theorem dX12_above_32 : decode cX12_above 32 = .ok (.getfield 242, 3) := by decide +kernel
theorem dX12_above_35 : decode cX12_above 35 = .ok (.i2l, 1) := by decide +kernel
theorem dX12_above_36 : decode cX12_above 36 = .ok (.aload_n 0, 1) := by decide +kernel
theorem dX12_above_37 : decode cX12_above 37 = .ok (.getfield 245, 3) := by decide +kernel
theorem dX12_above_40 : decode cX12_above 40 = .ok (.i2l, 1) := by decide +kernel
theorem dX12_above_41 : decode cX12_above 41 = .ok (.invokevirtual 258, 3) := by decide +kernel
theorem dX12_above_44 : decode cX12_above 44 = .ok (.istore 6, 2) := by decide +kernel
theorem dX12_above_46 : decode cX12_above 46 = .ok (.iload 6, 2) := by decide +kernel
theorem dX12_above_48 : decode cX12_above 48 = .ok (.ifCond .lt 20, 3) := by decide +kernel
theorem dX12_above_51 : decode cX12_above 51 = .ok (.aload_n 0, 1) := by decide +kernel
theorem dX12_above_52 : decode cX12_above 52 = .ok (.iload 6, 2) := by decide +kernel
theorem dX12_above_54 : decode cX12_above 54 = .ok (.iload_n 1, 1) := by decide +kernel
theorem dX12_above_55 : decode cX12_above 55 = .ok (.i2l, 1) := by decide +kernel
theorem dX12_above_56 : decode cX12_above 56 = .ok (.aload_n 0, 1) := by decide +kernel
theorem dX12_above_57 : decode cX12_above 57 = .ok (.getfield 245, 3) := by decide +kernel
theorem dX12_above_60 : decode cX12_above 60 = .ok (.i2l, 1) := by decide +kernel
theorem dX12_above_61 : decode cX12_above 61 = .ok (.invokevirtual 266, 3) := by decide +kernel
theorem dX12_above_64 : decode cX12_above 64 = .ok (.iload_n 2, 1) := by decide +kernel
theorem dX12_above_65 : decode cX12_above 65 = .ok (.if_icmp .le 10, 3) := by decide +kernel
theorem dX12_above_68 : decode cX12_above 68 = .ok (.iload 5, 2) := by decide +kernel
theorem dX12_above_70 : decode cX12_above 70 = .ok (.istore 4, 2) := by decide +kernel
theorem dX12_above_72 : decode cX12_above 72 = .ok (.goto 6, 3) := by decide +kernel
theorem dX12_above_75 : decode cX12_above 75 = .ok (.iload 5, 2) := by decide +kernel
theorem dX12_above_77 : decode cX12_above 77 = .ok (.istore_n 3, 1) := by decide +kernel
theorem dX12_above_78 : decode cX12_above 78 = .ok (.goto (-71), 3) := by decide +kernel
theorem dX12_above_81 : decode cX12_above 81 = .ok (.iload 4, 2) := by decide +kernel
theorem dX12_above_83 : decode cX12_above 83 = .ok (.ireturn, 1) := by decide +kernel
theorem dX12_recorded_0 : decode cX12_recorded 0 = .ok (.aload_n 0, 1) := by decide +kernel
theorem dX12_recorded_1 : decode cX12_recorded 1 = .ok (.iconst 0, 1) := by decide +kernel
theorem dX12_recorded_2 : decode cX12_recorded 2 = .ok (.putfield 55, 3) := by decide +kernel
theorem dX12_recorded_5 : decode cX12_recorded 5 = .ok (.aload_n 0, 1) := by decide +kernel
theorem dX12_recorded_6 : decode cX12_recorded 6 = .ok (.iload_n 1, 1) := by decide +kernel
theorem dX12_recorded_7 : decode cX12_recorded 7 = .ok (.iload_n 2, 1) := by decide +kernel
theorem dX12_recorded_8 : decode cX12_recorded 8 = .ok (.iconst 0, 1) := by decide +kernel
theorem dX12_recorded_9 : decode cX12_recorded 9 = .ok (.iload 5, 2) := by decide +kernel
theorem dX12_recorded_11 : decode cX12_recorded 11 = .ok (.invokevirtual 248, 3) := by decide +kernel
theorem dX12_recorded_14 : decode cX12_recorded 14 = .ok (.ifCond .eq 28, 3) := by decide +kernel
theorem dX12_recorded_17 : decode cX12_recorded 17 = .ok (.iload 4, 2) := by decide +kernel
theorem dX12_recorded_19 : decode cX12_recorded 19 = .ok (.iload_n 3, 1) := by decide +kernel
theorem dX12_recorded_20 : decode cX12_recorded 20 = .ok (.if_icmp .lt 22, 3) := by decide +kernel
theorem dX12_recorded_23 : decode cX12_recorded 23 = .ok (.iload 6, 2) := by decide +kernel
theorem dX12_recorded_25 : decode cX12_recorded 25 = .ok (.iconst 0, 1) := by decide +kernel
theorem dX12_recorded_26 : decode cX12_recorded 26 = .ok (.iconst 1, 1) := by decide +kernel
theorem dX12_recorded_27 : decode cX12_recorded 27 = .ok (.invokestatic 65, 3) := by decide +kernel
theorem dX12_recorded_30 : decode cX12_recorded 30 = .ok (.ifCond .eq 12, 3) := by decide +kernel
theorem dX12_recorded_33 : decode cX12_recorded 33 = .ok (.aload_n 0, 1) := by decide +kernel
theorem dX12_recorded_34 : decode cX12_recorded 34 = .ok (.iload_n 1, 1) := by decide +kernel
theorem dX12_recorded_35 : decode cX12_recorded 35 = .ok (.iload_n 2, 1) := by decide +kernel
theorem dX12_recorded_36 : decode cX12_recorded 36 = .ok (.invokevirtual 252, 3) := by decide +kernel
theorem dX12_recorded_39 : decode cX12_recorded 39 = .ok (.ifCond .ne 5, 3) := by decide +kernel
theorem dX12_recorded_42 : decode cX12_recorded 42 = .ok (.iconst (-1), 1) := by decide +kernel
theorem dX12_recorded_43 : decode cX12_recorded 43 = .ok (.ireturn, 1) := by decide +kernel
theorem dX12_recorded_44 : decode cX12_recorded 44 = .ok (.aload_n 0, 1) := by decide +kernel
theorem dX12_recorded_45 : decode cX12_recorded 45 = .ok (.aload_n 0, 1) := by decide +kernel
theorem dX12_recorded_46 : decode cX12_recorded 46 = .ok (.getfield 239, 3) := by decide +kernel
theorem dX12_recorded_49 : decode cX12_recorded 49 = .ok (.bipush 100, 2) := by decide +kernel
theorem dX12_recorded_51 : decode cX12_recorded 51 = .ok (.invokevirtual 226, 3) := by decide +kernel
theorem dX12_recorded_54 : decode cX12_recorded 54 = .ok (.aload_n 0, 1) := by decide +kernel
theorem dX12_recorded_55 : decode cX12_recorded 55 = .ok (.iload_n 1, 1) := by decide +kernel
theorem dX12_recorded_56 : decode cX12_recorded 56 = .ok (.invokevirtual 255, 3) := by decide +kernel
theorem dX12_recorded_59 : decode cX12_recorded 59 = .ok (.istore 7, 2) := by decide +kernel
theorem dX12_recorded_61 : decode cX12_recorded 61 = .ok (.iload_n 3, 1) := by decide +kernel
theorem dX12_recorded_62 : decode cX12_recorded 62 = .ok (.iconst 1, 1) := by decide +kernel
theorem dX12_recorded_63 : decode cX12_recorded 63 = .ok (.if_icmp .ge 7, 3) := by decide +kernel
theorem dX12_recorded_66 : decode cX12_recorded 66 = .ok (.iconst 0, 1) := by decide +kernel
theorem dX12_recorded_67 : decode cX12_recorded 67 = .ok (.goto 12, 3) := by decide +kernel
theorem dX12_recorded_70 : decode cX12_recorded 70 = .ok (.aload_n 0, 1) := by decide +kernel
theorem dX12_recorded_71 : decode cX12_recorded 71 = .ok (.iload 7, 2) := by decide +kernel
theorem dX12_recorded_73 : decode cX12_recorded 73 = .ok (.iload_n 3, 1) := by decide +kernel
theorem dX12_recorded_74 : decode cX12_recorded 74 = .ok (.iconst 1, 1) := by decide +kernel
theorem dX12_recorded_75 : decode cX12_recorded 75 = .ok (.isub, 1) := by decide +kernel
theorem dX12_recorded_76 : decode cX12_recorded 76 = .ok (.invokevirtual 279, 3) := by decide +kernel
theorem dX12_recorded_79 : decode cX12_recorded 79 = .ok (.istore 8, 2) := by decide +kernel
theorem dX12_recorded_81 : decode cX12_recorded 81 = .ok (.aload_n 0, 1) := by decide +kernel
theorem dX12_recorded_82 : decode cX12_recorded 82 = .ok (.iload 7, 2) := by decide +kernel
theorem dX12_recorded_84 : decode cX12_recorded 84 = .ok (.iload 4, 2) := by decide +kernel
theorem dX12_recorded_86 : decode cX12_recorded 86 = .ok (.invokevirtual 279, 3) := by decide +kernel
theorem dX12_recorded_89 : decode cX12_recorded 89 = .ok (.istore 9, 2) := by decide +kernel
theorem dX12_recorded_91 : decode cX12_recorded 91 = .ok (.iload 8, 2) := by decide +kernel
theorem dX12_recorded_93 : decode cX12_recorded 93 = .ok (.iload 9, 2) := by decide +kernel
theorem dX12_recorded_95 : decode cX12_recorded 95 = .ok (.if_icmp .lt 5, 3) := by decide +kernel
theorem dX12_recorded_98 : decode cX12_recorded 98 = .ok (.iconst (-1), 1) := by decide +kernel
theorem dX12_recorded_99 : decode cX12_recorded 99 = .ok (.ireturn, 1) := by decide +kernel
theorem dX12_recorded_100 : decode cX12_recorded 100 = .ok (.iload 6, 2) := by decide +kernel
theorem dX12_recorded_102 : decode cX12_recorded 102 = .ok (.ifCond .ne 8, 3) := by decide +kernel
theorem dX12_recorded_105 : decode cX12_recorded 105 = .ok (.iload 8, 2) := by decide +kernel
theorem dX12_recorded_107 : decode cX12_recorded 107 = .ok (.goto 7, 3) := by decide +kernel
theorem dX12_recorded_110 : decode cX12_recorded 110 = .ok (.iload 9, 2) := by decide +kernel
theorem dX12_recorded_112 : decode cX12_recorded 112 = .ok (.iconst 1, 1) := by decide +kernel
theorem dX12_recorded_113 : decode cX12_recorded 113 = .ok (.isub, 1) := by decide +kernel
theorem dX12_recorded_114 : decode cX12_recorded 114 = .ok (.ireturn, 1) := by decide +kernel
theorem dX12_pads_0 : decode cX12_pads 0 = .ok (.aload_n 0, 1) := by decide +kernel
theorem dX12_pads_1 : decode cX12_pads 1 = .ok (.iconst 0, 1) := by decide +kernel
theorem dX12_pads_2 : decode cX12_pads 2 = .ok (.putfield 55, 3) := by decide +kernel
theorem dX12_pads_5 : decode cX12_pads 5 = .ok (.aload_n 0, 1) := by decide +kernel
theorem dX12_pads_6 : decode cX12_pads 6 = .ok (.invokevirtual 201, 3) := by decide +kernel
theorem dX12_pads_9 : decode cX12_pads 9 = .ok (.istore 6, 2) := by decide +kernel
theorem dX12_pads_11 : decode cX12_pads 11 = .ok (.aload_n 0, 1) := by decide +kernel
theorem dX12_pads_12 : decode cX12_pads 12 = .ok (.iconst 1, 1) := by decide +kernel
theorem dX12_pads_13 : decode cX12_pads 13 = .ok (.iload_n 1, 1) := by decide +kernel
theorem dX12_pads_14 : decode cX12_pads 14 = .ok (.iload 5, 2) := by decide +kernel
theorem dX12_pads_16 : decode cX12_pads 16 = .ok (.invokevirtual 223, 3) := by decide +kernel
theorem dX12_pads_19 : decode cX12_pads 19 = .ok (.ifCond .eq 57, 3) := by decide +kernel
theorem dX12_pads_22 : decode cX12_pads 22 = .ok (.aload_n 0, 1) := by decide +kernel
theorem dX12_pads_23 : decode cX12_pads 23 = .ok (.iconst 2, 1) := by decide +kernel
theorem dX12_pads_24 : decode cX12_pads 24 = .ok (.iload_n 2, 1) := by decide +kernel
theorem dX12_pads_25 : decode cX12_pads 25 = .ok (.iload 5, 2) := by decide +kernel
theorem dX12_pads_27 : decode cX12_pads 27 = .ok (.invokevirtual 223, 3) := by decide +kernel
theorem dX12_pads_30 : decode cX12_pads 30 = .ok (.ifCond .eq 46, 3) := by decide +kernel
theorem dX12_pads_33 : decode cX12_pads 33 = .ok (.iload_n 3, 1) := by decide +kernel
theorem dX12_pads_34 : decode cX12_pads 34 = .ok (.iconst 1, 1) := by decide +kernel
theorem dX12_pads_35 : decode cX12_pads 35 = .ok (.sipush 2000, 3) := by decide +kernel
theorem dX12_pads_38 : decode cX12_pads 38 = .ok (.invokestatic 65, 3) := by decide +kernel
theorem dX12_pads_41 : decode cX12_pads 41 = .ok (.ifCond .eq 35, 3) := by decide +kernel
theorem dX12_pads_44 : decode cX12_pads 44 = .ok (.iload 4, 2) := by decide +kernel
theorem dX12_pads_46 : decode cX12_pads 46 = .ok (.iconst 0, 1) := by decide +kernel
theorem dX12_pads_47 : decode cX12_pads 47 = .ok (.sipush 30000, 3) := by decide +kernel
theorem dX12_pads_50 : decode cX12_pads 50 = .ok (.invokestatic 65, 3) := by decide +kernel
theorem dX12_pads_53 : decode cX12_pads 53 = .ok (.ifCond .eq 23, 3) := by decide +kernel
theorem dX12_pads_56 : decode cX12_pads 56 = .ok (.iload 6, 2) := by decide +kernel
theorem dX12_pads_58 : decode cX12_pads 58 = .ok (.iconst 2, 1) := by decide +kernel
theorem dX12_pads_59 : decode cX12_pads 59 = .ok (.irem, 1) := by decide +kernel
theorem dX12_pads_60 : decode cX12_pads 60 = .ok (.ifCond .ne 16, 3) := by decide +kernel
theorem dX12_pads_63 : decode cX12_pads 63 = .ok (.iload 6, 2) := by decide +kernel
theorem dX12_pads_65 : decode cX12_pads 65 = .ok (.iconst 2, 1) := by decide +kernel
theorem dX12_pads_66 : decode cX12_pads 66 = .ok (.idiv, 1) := by decide +kernel
theorem dX12_pads_67 : decode cX12_pads 67 = .ok (.iconst 1, 1) := by decide +kernel
theorem dX12_pads_68 : decode cX12_pads 68 = .ok (.bipush 10, 2) := by decide +kernel
theorem dX12_pads_70 : decode cX12_pads 70 = .ok (.invokestatic 65, 3) := by decide +kernel
theorem dX12_pads_73 : decode cX12_pads 73 = .ok (.ifCond .ne 6, 3) := by decide +kernel
theorem dX12_pads_76 : decode cX12_pads 76 = .ok (.bipush (-2), 2) := by decide +kernel
theorem dX12_pads_78 : decode cX12_pads 78 = .ok (.ireturn, 1) := by decide +kernel
theorem dX12_pads_79 : decode cX12_pads 79 = .ok (.iload 6, 2) := by decide +kernel
theorem dX12_pads_81 : decode cX12_pads 81 = .ok (.iconst 2, 1) := by decide +kernel
theorem dX12_pads_82 : decode cX12_pads 82 = .ok (.idiv, 1) := by decide +kernel
theorem dX12_pads_83 : decode cX12_pads 83 = .ok (.istore 7, 2) := by decide +kernel
theorem dX12_pads_85 : decode cX12_pads 85 = .ok (.iconst 0, 1) := by decide +kernel
theorem dX12_pads_86 : decode cX12_pads 86 = .ok (.istore 8, 2) := by decide +kernel
theorem dX12_pads_88 : decode cX12_pads 88 = .ok (.iload 8, 2) := by decide +kernel
theorem dX12_pads_90 : decode cX12_pads 90 = .ok (.iload 7, 2) := by decide +kernel
theorem dX12_pads_92 : decode cX12_pads 92 = .ok (.if_icmp .ge 49, 3) := by decide +kernel
theorem dX12_pads_95 : decode cX12_pads 95 = .ok (.aload_n 0, 1) := by decide +kernel
theorem dX12_pads_96 : decode cX12_pads 96 = .ok (.getfield 7, 3) := by decide +kernel
theorem dX12_pads_99 : decode cX12_pads 99 = .ok (.iconst 2, 1) := by decide +kernel
theorem dX12_pads_100 : decode cX12_pads 100 = .ok (.iload 8, 2) := by decide +kernel
theorem dX12_pads_102 : decode cX12_pads 102 = .ok (.imul, 1) := by decide +kernel
theorem dX12_pads_103 : decode cX12_pads 103 = .ok (.iaload, 1) := by decide +kernel
theorem dX12_pads_104 : decode cX12_pads 104 = .ok (.aload_n 0, 1) := by decide +kernel
theorem dX12_pads_105 : decode cX12_pads 105 = .ok (.iconst 0, 1) := by decide +kernel
theorem dX12_pads_106 : decode cX12_pads 106 = .ok (.invokevirtual 217, 3) := by decide +kernel
theorem dX12_pads_109 : decode cX12_pads 109 = .ok (.if_icmp .ge 23, 3) := by decide +kernel
theorem dX12_pads_112 : decode cX12_pads 112 = .ok (.aload_n 0, 1) := by decide +kernel
theorem dX12_pads_113 : decode cX12_pads 113 = .ok (.getfield 7, 3) := by decide +kernel
theorem dX12_pads_116 : decode cX12_pads 116 = .ok (.iconst 2, 1) := by decide +kernel
theorem dX12_pads_117 : decode cX12_pads 117 = .ok (.iload 8, 2) := by decide +kernel
theorem dX12_pads_119 : decode cX12_pads 119 = .ok (.imul, 1) := by decide +kernel
theorem dX12_pads_120 : decode cX12_pads 120 = .ok (.iconst 1, 1) := by decide +kernel
theorem dX12_pads_121 : decode cX12_pads 121 = .ok (.iadd, 1) := by decide +kernel
theorem dX12_pads_122 : decode cX12_pads 122 = .ok (.iaload, 1) := by decide +kernel
theorem dX12_pads_123 : decode cX12_pads 123 = .ok (.iconst 1, 1) := by decide +kernel
theorem dX12_pads_124 : decode cX12_pads 124 = .ok (.bipush 60, 2) := by decide +kernel
theorem dX12_pads_126 : decode cX12_pads 126 = .ok (.invokestatic 65, 3) := by decide +kernel
theorem dX12_pads_129 : decode cX12_pads 129 = .ok (.ifCond .ne 6, 3) := by decide +kernel
theorem dX12_pads_132 : decode cX12_pads 132 = .ok (.bipush (-2), 2) := by decide +kernel
theorem dX12_pads_134 : decode cX12_pads 134 = .ok (.ireturn, 1) := by decide +kernel
theorem dX12_pads_135 : decode cX12_pads 135 = .ok (.iinc 8 1, 3) := by decide +kernel
theorem dX12_pads_138 : decode cX12_pads 138 = .ok (.goto (-50), 3) := by decide +kernel
theorem dX12_pads_141 : decode cX12_pads 141 = .ok (.aload_n 0, 1) := by decide +kernel
theorem dX12_pads_142 : decode cX12_pads 142 = .ok (.iload_n 3, 1) := by decide +kernel
theorem dX12_pads_143 : decode cX12_pads 143 = .ok (.putfield 245, 3) := by decide +kernel
theorem dX12_pads_146 : decode cX12_pads 146 = .ok (.iconst 0, 1) := by decide +kernel
theorem dX12_pads_147 : decode cX12_pads 147 = .ok (.istore 8, 2) := by decide +kernel
theorem dX12_pads_149 : decode cX12_pads 149 = .ok (.iload 8, 2) := by decide +kernel
theorem dX12_pads_151 : decode cX12_pads 151 = .ok (.iload 7, 2) := by decide +kernel
theorem dX12_pads_153 : decode cX12_pads 153 = .ok (.if_icmp .ge 129, 3) := by decide +kernel
theorem dX12_pads_156 : decode cX12_pads 156 = .ok (.aload_n 0, 1) := by decide +kernel
theorem dX12_pads_157 : decode cX12_pads 157 = .ok (.getfield 36, 3) := by decide +kernel
theorem dX12_pads_160 : decode cX12_pads 160 = .ok (.iload 8, 2) := by decide +kernel
theorem dX12_pads_162 : decode cX12_pads 162 = .ok (.aload_n 0, 1) := by decide +kernel
theorem dX12_pads_163 : decode cX12_pads 163 = .ok (.getfield 7, 3) := by decide +kernel
theorem dX12_pads_166 : decode cX12_pads 166 = .ok (.iconst 2, 1) := by decide +kernel
theorem dX12_pads_167 : decode cX12_pads 167 = .ok (.iload 8, 2) := by decide +kernel
theorem dX12_pads_169 : decode cX12_pads 169 = .ok (.imul, 1) := by decide +kernel
theorem dX12_pads_170 : decode cX12_pads 170 = .ok (.iaload, 1) := by decide +kernel
theorem dX12_pads_171 : decode cX12_pads 171 = .ok (.iastore, 1) := by decide +kernel
theorem dX12_pads_172 : decode cX12_pads 172 = .ok (.aload_n 0, 1) := by decide +kernel
theorem dX12_pads_173 : decode cX12_pads 173 = .ok (.getfield 39, 3) := by decide +kernel
theorem dX12_pads_176 : decode cX12_pads 176 = .ok (.iload 8, 2) := by decide +kernel
theorem dX12_pads_178 : decode cX12_pads 178 = .ok (.bipush 10, 2) := by decide +kernel
theorem dX12_pads_180 : decode cX12_pads 180 = .ok (.aload_n 0, 1) := by decide +kernel
theorem dX12_pads_181 : decode cX12_pads 181 = .ok (.getfield 7, 3) := by decide +kernel
theorem dX12_pads_184 : decode cX12_pads 184 = .ok (.iconst 2, 1) := by decide +kernel
theorem dX12_pads_185 : decode cX12_pads 185 = .ok (.iload 8, 2) := by decide +kernel
theorem dX12_pads_187 : decode cX12_pads 187 = .ok (.imul, 1) := by decide +kernel
theorem dX12_pads_188 : decode cX12_pads 188 = .ok (.iconst 1, 1) := by decide +kernel
theorem dX12_pads_189 : decode cX12_pads 189 = .ok (.iadd, 1) := by decide +kernel
theorem dX12_pads_190 : decode cX12_pads 190 = .ok (.iaload, 1) := by decide +kernel
theorem dX12_pads_191 : decode cX12_pads 191 = .ok (.imul, 1) := by decide +kernel
theorem dX12_pads_192 : decode cX12_pads 192 = .ok (.iastore, 1) := by decide +kernel
theorem dX12_pads_193 : decode cX12_pads 193 = .ok (.aload_n 0, 1) := by decide +kernel
theorem dX12_pads_194 : decode cX12_pads 194 = .ok (.aload_n 0, 1) := by decide +kernel
theorem dX12_pads_195 : decode cX12_pads 195 = .ok (.getfield 39, 3) := by decide +kernel
theorem dX12_pads_198 : decode cX12_pads 198 = .ok (.iload 8, 2) := by decide +kernel
theorem dX12_pads_200 : decode cX12_pads 200 = .ok (.iaload, 1) := by decide +kernel
theorem dX12_pads_201 : decode cX12_pads 201 = .ok (.putfield 242, 3) := by decide +kernel
theorem dX12_pads_204 : decode cX12_pads 204 = .ok (.aload_n 0, 1) := by decide +kernel
theorem dX12_pads_205 : decode cX12_pads 205 = .ok (.aload_n 0, 1) := by decide +kernel
theorem dX12_pads_206 : decode cX12_pads 206 = .ok (.getfield 36, 3) := by decide +kernel
theorem dX12_pads_209 : decode cX12_pads 209 = .ok (.iload 8, 2) := by decide +kernel
theorem dX12_pads_211 : decode cX12_pads 211 = .ok (.iaload, 1) := by decide +kernel
theorem dX12_pads_212 : decode cX12_pads 212 = .ok (.bipush 100, 2) := by decide +kernel
theorem dX12_pads_214 : decode cX12_pads 214 = .ok (.invokevirtual 226, 3) := by decide +kernel
theorem dX12_pads_217 : decode cX12_pads 217 = .ok (.aload_n 0, 1) := by decide +kernel
theorem dX12_pads_218 : decode cX12_pads 218 = .ok (.getfield 51, 3) := by decide +kernel
theorem dX12_pads_221 : decode cX12_pads 221 = .ok (.iload 8, 2) := by decide +kernel
theorem dX12_pads_223 : decode cX12_pads 223 = .ok (.aload_n 0, 1) := by decide +kernel
theorem dX12_pads_224 : decode cX12_pads 224 = .ok (.aload_n 0, 1) := by decide +kernel
theorem dX12_pads_225 : decode cX12_pads 225 = .ok (.iload_n 1, 1) := by decide +kernel
theorem dX12_pads_226 : decode cX12_pads 226 = .ok (.invokevirtual 255, 3) := by decide +kernel
theorem dX12_pads_229 : decode cX12_pads 229 = .ok (.iload 4, 2) := by decide +kernel
theorem dX12_pads_231 : decode cX12_pads 231 = .ok (.aload_n 0, 1) := by decide +kernel
theorem dX12_pads_232 : decode cX12_pads 232 = .ok (.iload_n 1, 1) := by decide +kernel
theorem dX12_pads_233 : decode cX12_pads 233 = .ok (.invokevirtual 270, 3) := by decide +kernel
theorem dX12_pads_236 : decode cX12_pads 236 = .ok (.invokevirtual 273, 3) := by decide +kernel
theorem dX12_pads_239 : decode cX12_pads 239 = .ok (.bastore, 1) := by decide +kernel
theorem dX12_pads_240 : decode cX12_pads 240 = .ok (.aload_n 0, 1) := by decide +kernel
theorem dX12_pads_241 : decode cX12_pads 241 = .ok (.getfield 42, 3) := by decide +kernel
theorem dX12_pads_244 : decode cX12_pads 244 = .ok (.iload 8, 2) := by decide +kernel
theorem dX12_pads_246 : decode cX12_pads 246 = .ok (.aload_n 0, 1) := by decide +kernel
theorem dX12_pads_247 : decode cX12_pads 247 = .ok (.iconst 4, 1) := by decide +kernel
theorem dX12_pads_248 : decode cX12_pads 248 = .ok (.bipush 20, 2) := by decide +kernel
theorem dX12_pads_250 : decode cX12_pads 250 = .ok (.aload_n 0, 1) := by decide +kernel
theorem dX12_pads_251 : decode cX12_pads 251 = .ok (.getfield 36, 3) := by decide +kernel
theorem dX12_pads_254 : decode cX12_pads 254 = .ok (.iload 8, 2) := by decide +kernel
theorem dX12_pads_256 : decode cX12_pads 256 = .ok (.iaload, 1) := by decide +kernel
theorem dX12_pads_257 : decode cX12_pads 257 = .ok (.imul, 1) := by decide +kernel
theorem dX12_pads_258 : decode cX12_pads 258 = .ok (.iadd, 1) := by decide +kernel
theorem dX12_pads_259 : decode cX12_pads 259 = .ok (.iconst 2, 1) := by decide +kernel
theorem dX12_pads_260 : decode cX12_pads 260 = .ok (.iadd, 1) := by decide +kernel
theorem dX12_pads_261 : decode cX12_pads 261 = .ok (.invokevirtual 217, 3) := by decide +kernel
theorem dX12_pads_264 : decode cX12_pads 264 = .ok (.iload_n 3, 1) := by decide +kernel
theorem dX12_pads_265 : decode cX12_pads 265 = .ok (.imul, 1) := by decide +kernel
theorem dX12_pads_266 : decode cX12_pads 266 = .ok (.aload_n 0, 1) := by decide +kernel
theorem dX12_pads_267 : decode cX12_pads 267 = .ok (.getfield 242, 3) := by decide +kernel
theorem dX12_pads_270 : decode cX12_pads 270 = .ok (.imul, 1) := by decide +kernel
theorem dX12_pads_271 : decode cX12_pads 271 = .ok (.sipush 1000, 3) := by decide +kernel
theorem dX12_pads_274 : decode cX12_pads 274 = .ok (.idiv, 1) := by decide +kernel
theorem dX12_pads_275 : decode cX12_pads 275 = .ok (.iastore, 1) := by decide +kernel
theorem dX12_pads_276 : decode cX12_pads 276 = .ok (.iinc 8 1, 3) := by decide +kernel
theorem dX12_pads_279 : decode cX12_pads 279 = .ok (.goto (-130), 3) := by decide +kernel
theorem dX12_pads_282 : decode cX12_pads 282 = .ok (.iconst 0, 1) := by decide +kernel
theorem dX12_pads_283 : decode cX12_pads 283 = .ok (.istore 8, 2) := by decide +kernel
theorem dX12_pads_285 : decode cX12_pads 285 = .ok (.iconst 0, 1) := by decide +kernel
theorem dX12_pads_286 : decode cX12_pads 286 = .ok (.istore 9, 2) := by decide +kernel
theorem dX12_pads_288 : decode cX12_pads 288 = .ok (.iload 9, 2) := by decide +kernel
theorem dX12_pads_290 : decode cX12_pads 290 = .ok (.iconst 3, 1) := by decide +kernel
theorem dX12_pads_291 : decode cX12_pads 291 = .ok (.if_icmp .ge 195, 3) := by decide +kernel
theorem dX12_pads_294 : decode cX12_pads 294 = .ok (.iconst (-1), 1) := by decide +kernel
theorem dX12_pads_295 : decode cX12_pads 295 = .ok (.istore 10, 2) := by decide +kernel
theorem dX12_pads_297 : decode cX12_pads 297 = .ok (.aload_n 0, 1) := by decide +kernel
theorem dX12_pads_298 : decode cX12_pads 298 = .ok (.sipush 356, 3) := by decide +kernel
theorem dX12_pads_301 : decode cX12_pads 301 = .ok (.bipush 6, 2) := by decide +kernel
theorem dX12_pads_303 : decode cX12_pads 303 = .ok (.iload_n 2, 1) := by decide +kernel
theorem dX12_pads_304 : decode cX12_pads 304 = .ok (.imul, 1) := by decide +kernel
theorem dX12_pads_305 : decode cX12_pads 305 = .ok (.iadd, 1) := by decide +kernel
theorem dX12_pads_306 : decode cX12_pads 306 = .ok (.iload 9, 2) := by decide +kernel
theorem dX12_pads_308 : decode cX12_pads 308 = .ok (.iadd, 1) := by decide +kernel
theorem dX12_pads_309 : decode cX12_pads 309 = .ok (.invokevirtual 217, 3) := by decide +kernel
theorem dX12_pads_312 : decode cX12_pads 312 = .ok (.aload_n 0, 1) := by decide +kernel
theorem dX12_pads_313 : decode cX12_pads 313 = .ok (.sipush 164, 3) := by decide +kernel
theorem dX12_pads_316 : decode cX12_pads 316 = .ok (.bipush 24, 2) := by decide +kernel
theorem dX12_pads_318 : decode cX12_pads 318 = .ok (.iload_n 1, 1) := by decide +kernel
theorem dX12_pads_319 : decode cX12_pads 319 = .ok (.imul, 1) := by decide +kernel
theorem dX12_pads_320 : decode cX12_pads 320 = .ok (.iadd, 1) := by decide +kernel
theorem dX12_pads_321 : decode cX12_pads 321 = .ok (.iconst 1, 1) := by decide +kernel
theorem dX12_pads_322 : decode cX12_pads 322 = .ok (.iadd, 1) := by decide +kernel
theorem dX12_pads_323 : decode cX12_pads 323 = .ok (.iload 9, 2) := by decide +kernel
theorem dX12_pads_325 : decode cX12_pads 325 = .ok (.iadd, 1) := by decide +kernel
theorem dX12_pads_326 : decode cX12_pads 326 = .ok (.invokevirtual 217, 3) := by decide +kernel
theorem dX12_pads_329 : decode cX12_pads 329 = .ok (.isub, 1) := by decide +kernel
theorem dX12_pads_330 : decode cX12_pads 330 = .ok (.istore 11, 2) := by decide +kernel
theorem dX12_pads_332 : decode cX12_pads 332 = .ok (.iconst 0, 1) := by decide +kernel
theorem dX12_pads_333 : decode cX12_pads 333 = .ok (.istore 12, 2) := by decide +kernel
theorem dX12_pads_335 : decode cX12_pads 335 = .ok (.iload 12, 2) := by decide +kernel
theorem dX12_pads_337 : decode cX12_pads 337 = .ok (.iload 7, 2) := by decide +kernel
theorem dX12_pads_339 : decode cX12_pads 339 = .ok (.if_icmp .ge 126, 3) := by decide +kernel
theorem dX12_pads_342 : decode cX12_pads 342 = .ok (.iconst 0, 1) := by decide +kernel
theorem dX12_pads_343 : decode cX12_pads 343 = .ok (.istore 13, 2) := by decide +kernel
theorem dX12_pads_345 : decode cX12_pads 345 = .ok (.iload 13, 2) := by decide +kernel
theorem dX12_pads_347 : decode cX12_pads 347 = .ok (.iload 7, 2) := by decide +kernel
theorem dX12_pads_349 : decode cX12_pads 349 = .ok (.if_icmp .ge 110, 3) := by decide +kernel
theorem dX12_pads_352 : decode cX12_pads 352 = .ok (.aload_n 0, 1) := by decide +kernel
theorem dX12_pads_353 : decode cX12_pads 353 = .ok (.getfield 42, 3) := by decide +kernel
theorem dX12_pads_356 : decode cX12_pads 356 = .ok (.iload 12, 2) := by decide +kernel
theorem dX12_pads_358 : decode cX12_pads 358 = .ok (.iaload, 1) := by decide +kernel
theorem dX12_pads_359 : decode cX12_pads 359 = .ok (.aload_n 0, 1) := by decide +kernel
theorem dX12_pads_360 : decode cX12_pads 360 = .ok (.getfield 42, 3) := by decide +kernel
theorem dX12_pads_363 : decode cX12_pads 363 = .ok (.iload 13, 2) := by decide +kernel
theorem dX12_pads_365 : decode cX12_pads 365 = .ok (.iaload, 1) := by decide +kernel
theorem dX12_pads_366 : decode cX12_pads 366 = .ok (.iadd, 1) := by decide +kernel
theorem dX12_pads_367 : decode cX12_pads 367 = .ok (.istore 14, 2) := by decide +kernel
theorem dX12_pads_369 : decode cX12_pads 369 = .ok (.aload_n 0, 1) := by decide +kernel
theorem dX12_pads_370 : decode cX12_pads 370 = .ok (.getfield 51, 3) := by decide +kernel
theorem dX12_pads_373 : decode cX12_pads 373 = .ok (.iload 12, 2) := by decide +kernel
theorem dX12_pads_375 : decode cX12_pads 375 = .ok (.baload, 1) := by decide +kernel
theorem dX12_pads_376 : decode cX12_pads 376 = .ok (.ifCond .eq 77, 3) := by decide +kernel
theorem dX12_pads_379 : decode cX12_pads 379 = .ok (.aload_n 0, 1) := by decide +kernel
theorem dX12_pads_380 : decode cX12_pads 380 = .ok (.getfield 51, 3) := by decide +kernel
theorem dX12_pads_383 : decode cX12_pads 383 = .ok (.iload 13, 2) := by decide +kernel
theorem dX12_pads_385 : decode cX12_pads 385 = .ok (.baload, 1) := by decide +kernel
theorem dX12_pads_386 : decode cX12_pads 386 = .ok (.ifCond .eq 67, 3) := by decide +kernel
theorem dX12_pads_389 : decode cX12_pads 389 = .ok (.aload_n 0, 1) := by decide +kernel
theorem dX12_pads_390 : decode cX12_pads 390 = .ok (.getfield 39, 3) := by decide +kernel
theorem dX12_pads_393 : decode cX12_pads 393 = .ok (.iload 12, 2) := by decide +kernel
theorem dX12_pads_395 : decode cX12_pads 395 = .ok (.iaload, 1) := by decide +kernel
theorem dX12_pads_396 : decode cX12_pads 396 = .ok (.aload_n 0, 1) := by decide +kernel
theorem dX12_pads_397 : decode cX12_pads 397 = .ok (.getfield 39, 3) := by decide +kernel
theorem dX12_pads_400 : decode cX12_pads 400 = .ok (.iload 13, 2) := by decide +kernel
theorem dX12_pads_402 : decode cX12_pads 402 = .ok (.iaload, 1) := by decide +kernel
theorem dX12_pads_403 : decode cX12_pads 403 = .ok (.iadd, 1) := by decide +kernel
theorem dX12_pads_404 : decode cX12_pads 404 = .ok (.iload 11, 2) := by decide +kernel
theorem dX12_pads_406 : decode cX12_pads 406 = .ok (.if_icmp .gt 47, 3) := by decide +kernel
theorem dX12_pads_409 : decode cX12_pads 409 = .ok (.iload 10, 2) := by decide +kernel
theorem dX12_pads_411 : decode cX12_pads 411 = .ok (.iconst (-1), 1) := by decide +kernel
theorem dX12_pads_412 : decode cX12_pads 412 = .ok (.if_icmp .eq 13, 3) := by decide +kernel
theorem dX12_pads_415 : decode cX12_pads 415 = .ok (.iload 14, 2) := by decide +kernel
theorem dX12_pads_417 : decode cX12_pads 417 = .ok (.iload 10, 2) := by decide +kernel
theorem dX12_pads_419 : decode cX12_pads 419 = .ok (.if_icmp .lt 6, 3) := by decide +kernel
theorem dX12_pads_422 : decode cX12_pads 422 = .ok (.goto 31, 3) := by decide +kernel
theorem dX12_pads_425 : decode cX12_pads 425 = .ok (.iload 14, 2) := by decide +kernel
theorem dX12_pads_427 : decode cX12_pads 427 = .ok (.istore 10, 2) := by decide +kernel
theorem dX12_pads_429 : decode cX12_pads 429 = .ok (.aload_n 0, 1) := by decide +kernel
theorem dX12_pads_430 : decode cX12_pads 430 = .ok (.getfield 48, 3) := by decide +kernel
theorem dX12_pads_433 : decode cX12_pads 433 = .ok (.iconst 2, 1) := by decide +kernel
theorem dX12_pads_434 : decode cX12_pads 434 = .ok (.iload 9, 2) := by decide +kernel
theorem dX12_pads_436 : decode cX12_pads 436 = .ok (.imul, 1) := by decide +kernel
theorem dX12_pads_437 : decode cX12_pads 437 = .ok (.iload 12, 2) := by decide +kernel
theorem dX12_pads_439 : decode cX12_pads 439 = .ok (.iastore, 1) := by decide +kernel
theorem dX12_pads_440 : decode cX12_pads 440 = .ok (.aload_n 0, 1) := by decide +kernel
theorem dX12_pads_441 : decode cX12_pads 441 = .ok (.getfield 48, 3) := by decide +kernel
theorem dX12_pads_444 : decode cX12_pads 444 = .ok (.iconst 2, 1) := by decide +kernel
theorem dX12_pads_445 : decode cX12_pads 445 = .ok (.iload 9, 2) := by decide +kernel
theorem dX12_pads_447 : decode cX12_pads 447 = .ok (.imul, 1) := by decide +kernel
theorem dX12_pads_448 : decode cX12_pads 448 = .ok (.iconst 1, 1) := by decide +kernel
theorem dX12_pads_449 : decode cX12_pads 449 = .ok (.iadd, 1) := by decide +kernel
theorem dX12_pads_450 : decode cX12_pads 450 = .ok (.iload 13, 2) := by decide +kernel
theorem dX12_pads_452 : decode cX12_pads 452 = .ok (.iastore, 1) := by decide +kernel
theorem dX12_pads_453 : decode cX12_pads 453 = .ok (.iinc 13 1, 3) := by decide +kernel
theorem dX12_pads_456 : decode cX12_pads 456 = .ok (.goto (-111), 3) := by decide +kernel
theorem dX12_pads_459 : decode cX12_pads 459 = .ok (.iinc 12 1, 3) := by decide +kernel
theorem dX12_pads_462 : decode cX12_pads 462 = .ok (.goto (-127), 3) := by decide +kernel
theorem dX12_pads_465 : decode cX12_pads 465 = .ok (.iload 10, 2) := by decide +kernel
theorem dX12_pads_467 : decode cX12_pads 467 = .ok (.iconst (-1), 1) := by decide +kernel
theorem dX12_pads_468 : decode cX12_pads 468 = .ok (.if_icmp .ne 5, 3) := by decide +kernel
theorem dX12_pads_471 : decode cX12_pads 471 = .ok (.iconst (-1), 1) := by decide +kernel
theorem dX12_pads_472 : decode cX12_pads 472 = .ok (.ireturn, 1) := by decide +kernel
theorem dX12_pads_473 : decode cX12_pads 473 = .ok (.iload 8, 2) := by decide +kernel
theorem dX12_pads_475 : decode cX12_pads 475 = .ok (.iload 10, 2) := by decide +kernel
theorem dX12_pads_477 : decode cX12_pads 477 = .ok (.iadd, 1) := by decide +kernel
theorem dX12_pads_478 : decode cX12_pads 478 = .ok (.istore 8, 2) := by decide +kernel
theorem dX12_pads_480 : decode cX12_pads 480 = .ok (.iinc 9 1, 3) := by decide +kernel
theorem dX12_pads_483 : decode cX12_pads 483 = .ok (.goto (-195), 3) := by decide +kernel
theorem dX12_pads_486 : decode cX12_pads 486 = .ok (.iconst 0, 1) := by decide +kernel
theorem dX12_pads_487 : decode cX12_pads 487 = .ok (.istore 9, 2) := by decide +kernel
theorem dX12_pads_489 : decode cX12_pads 489 = .ok (.iload 9, 2) := by decide +kernel
theorem dX12_pads_491 : decode cX12_pads 491 = .ok (.bipush 6, 2) := by decide +kernel
theorem dX12_pads_493 : decode cX12_pads 493 = .ok (.if_icmp .ge 23, 3) := by decide +kernel
theorem dX12_pads_496 : decode cX12_pads 496 = .ok (.aload_n 0, 1) := by decide +kernel
theorem dX12_pads_497 : decode cX12_pads 497 = .ok (.getfield 45, 3) := by decide +kernel
theorem dX12_pads_500 : decode cX12_pads 500 = .ok (.iload 9, 2) := by decide +kernel
theorem dX12_pads_502 : decode cX12_pads 502 = .ok (.aload_n 0, 1) := by decide +kernel
theorem dX12_pads_503 : decode cX12_pads 503 = .ok (.getfield 48, 3) := by decide +kernel
theorem dX12_pads_506 : decode cX12_pads 506 = .ok (.iload 9, 2) := by decide +kernel
theorem dX12_pads_508 : decode cX12_pads 508 = .ok (.iaload, 1) := by decide +kernel
theorem dX12_pads_509 : decode cX12_pads 509 = .ok (.iastore, 1) := by decide +kernel
theorem dX12_pads_510 : decode cX12_pads 510 = .ok (.iinc 9 1, 3) := by decide +kernel
theorem dX12_pads_513 : decode cX12_pads 513 = .ok (.goto (-24), 3) := by decide +kernel
theorem dX12_pads_516 : decode cX12_pads 516 = .ok (.aload_n 0, 1) := by decide +kernel
theorem dX12_pads_517 : decode cX12_pads 517 = .ok (.iconst 1, 1) := by decide +kernel
theorem dX12_pads_518 : decode cX12_pads 518 = .ok (.putfield 283, 3) := by decide +kernel
theorem dX12_pads_521 : decode cX12_pads 521 = .ok (.iload 8, 2) := by decide +kernel
theorem dX12_pads_523 : decode cX12_pads 523 = .ok (.ireturn, 1) := by decide +kernel
theorem dX12_padAt_0 : decode cX12_padAt 0 = .ok (.aload_n 0, 1) := by decide +kernel
theorem dX12_padAt_1 : decode cX12_padAt 1 = .ok (.iconst 0, 1) := by decide +kernel
theorem dX12_padAt_2 : decode cX12_padAt 2 = .ok (.putfield 55, 3) := by decide +kernel
theorem dX12_padAt_5 : decode cX12_padAt 5 = .ok (.aload_n 0, 1) := by decide +kernel
theorem dX12_padAt_6 : decode cX12_padAt 6 = .ok (.getfield 283, 3) := by decide +kernel
theorem dX12_padAt_9 : decode cX12_padAt 9 = .ok (.ifCond .eq 21, 3) := by decide +kernel
theorem dX12_padAt_12 : decode cX12_padAt 12 = .ok (.iload_n 1, 1) := by decide +kernel
theorem dX12_padAt_13 : decode cX12_padAt 13 = .ok (.iconst 0, 1) := by decide +kernel
theorem dX12_padAt_14 : decode cX12_padAt 14 = .ok (.iconst 5, 1) := by decide +kernel
theorem dX12_padAt_15 : decode cX12_padAt 15 = .ok (.invokestatic 65, 3) := by decide +kernel
theorem dX12_padAt_18 : decode cX12_padAt 18 = .ok (.ifCond .eq 12, 3) := by decide +kernel
theorem dX12_padAt_21 : decode cX12_padAt 21 = .ok (.aload_n 0, 1) := by decide +kernel
theorem dX12_padAt_22 : decode cX12_padAt 22 = .ok (.getfield 45, 3) := by decide +kernel
theorem dX12_padAt_25 : decode cX12_padAt 25 = .ok (.iload_n 1, 1) := by decide +kernel
theorem dX12_padAt_26 : decode cX12_padAt 26 = .ok (.iaload, 1) := by decide +kernel
theorem dX12_padAt_27 : decode cX12_padAt 27 = .ok (.goto 4, 3) := by decide +kernel
theorem dX12_padAt_30 : decode cX12_padAt 30 = .ok (.iconst (-1), 1) := by decide +kernel
theorem dX12_padAt_31 : decode cX12_padAt 31 = .ok (.ireturn, 1) := by decide +kernel
theorem dX12_fits_0 : decode cX12_fits 0 = .ok (.iload 4, 2) := by decide +kernel
theorem dX12_fits_2 : decode cX12_fits 2 = .ok (.iconst 2, 1) := by decide +kernel
theorem dX12_fits_3 : decode cX12_fits 3 = .ok (.idiv, 1) := by decide +kernel
theorem dX12_fits_4 : decode cX12_fits 4 = .ok (.istore 5, 2) := by decide +kernel
theorem dX12_fits_6 : decode cX12_fits 6 = .ok (.iload 4, 2) := by decide +kernel
theorem dX12_fits_8 : decode cX12_fits 8 = .ok (.iconst 2, 1) := by decide +kernel
theorem dX12_fits_9 : decode cX12_fits 9 = .ok (.irem, 1) := by decide +kernel
theorem dX12_fits_10 : decode cX12_fits 10 = .ok (.ifCond .ne 12, 3) := by decide +kernel
theorem dX12_fits_13 : decode cX12_fits 13 = .ok (.iload 5, 2) := by decide +kernel
theorem dX12_fits_15 : decode cX12_fits 15 = .ok (.iconst 1, 1) := by decide +kernel
theorem dX12_fits_16 : decode cX12_fits 16 = .ok (.iadd, 1) := by decide +kernel
theorem dX12_fits_17 : decode cX12_fits 17 = .ok (.iconst 3, 1) := by decide +kernel
theorem dX12_fits_18 : decode cX12_fits 18 = .ok (.irem, 1) := by decide +kernel
theorem dX12_fits_19 : decode cX12_fits 19 = .ok (.goto 9, 3) := by decide +kernel
theorem dX12_fits_22 : decode cX12_fits 22 = .ok (.iload 5, 2) := by decide +kernel
theorem dX12_fits_24 : decode cX12_fits 24 = .ok (.iconst 2, 1) := by decide +kernel
theorem dX12_fits_25 : decode cX12_fits 25 = .ok (.iadd, 1) := by decide +kernel
theorem dX12_fits_26 : decode cX12_fits 26 = .ok (.iconst 3, 1) := by decide +kernel
theorem dX12_fits_27 : decode cX12_fits 27 = .ok (.irem, 1) := by decide +kernel
theorem dX12_fits_28 : decode cX12_fits 28 = .ok (.istore 6, 2) := by decide +kernel
theorem dX12_fits_30 : decode cX12_fits 30 = .ok (.iconst 3, 1) := by decide +kernel
theorem dX12_fits_31 : decode cX12_fits 31 = .ok (.iload 5, 2) := by decide +kernel
theorem dX12_fits_33 : decode cX12_fits 33 = .ok (.isub, 1) := by decide +kernel
theorem dX12_fits_34 : decode cX12_fits 34 = .ok (.iload 6, 2) := by decide +kernel
theorem dX12_fits_36 : decode cX12_fits 36 = .ok (.isub, 1) := by decide +kernel
theorem dX12_fits_37 : decode cX12_fits 37 = .ok (.istore 7, 2) := by decide +kernel
theorem dX12_fits_39 : decode cX12_fits 39 = .ok (.sipush 356, 3) := by decide +kernel
theorem dX12_fits_42 : decode cX12_fits 42 = .ok (.bipush 6, 2) := by decide +kernel
theorem dX12_fits_44 : decode cX12_fits 44 = .ok (.iload_n 2, 1) := by decide +kernel
theorem dX12_fits_45 : decode cX12_fits 45 = .ok (.imul, 1) := by decide +kernel
theorem dX12_fits_46 : decode cX12_fits 46 = .ok (.iadd, 1) := by decide +kernel
theorem dX12_fits_47 : decode cX12_fits 47 = .ok (.istore 8, 2) := by decide +kernel
theorem dX12_fits_49 : decode cX12_fits 49 = .ok (.sipush 164, 3) := by decide +kernel
theorem dX12_fits_52 : decode cX12_fits 52 = .ok (.bipush 24, 2) := by decide +kernel
theorem dX12_fits_54 : decode cX12_fits 54 = .ok (.iload_n 1, 1) := by decide +kernel
theorem dX12_fits_55 : decode cX12_fits 55 = .ok (.imul, 1) := by decide +kernel
theorem dX12_fits_56 : decode cX12_fits 56 = .ok (.iadd, 1) := by decide +kernel
theorem dX12_fits_57 : decode cX12_fits 57 = .ok (.iconst 1, 1) := by decide +kernel
theorem dX12_fits_58 : decode cX12_fits 58 = .ok (.iadd, 1) := by decide +kernel
theorem dX12_fits_59 : decode cX12_fits 59 = .ok (.istore 9, 2) := by decide +kernel
theorem dX12_fits_61 : decode cX12_fits 61 = .ok (.iconst 2, 1) := by decide +kernel
theorem dX12_fits_62 : decode cX12_fits 62 = .ok (.iload_n 3, 1) := by decide +kernel
theorem dX12_fits_63 : decode cX12_fits 63 = .ok (.imul, 1) := by decide +kernel
theorem dX12_fits_64 : decode cX12_fits 64 = .ok (.istore 10, 2) := by decide +kernel
theorem dX12_fits_66 : decode cX12_fits 66 = .ok (.aload_n 0, 1) := by decide +kernel
theorem dX12_fits_67 : decode cX12_fits 67 = .ok (.iload 9, 2) := by decide +kernel
theorem dX12_fits_69 : decode cX12_fits 69 = .ok (.iload 5, 2) := by decide +kernel
theorem dX12_fits_71 : decode cX12_fits 71 = .ok (.iadd, 1) := by decide +kernel
theorem dX12_fits_72 : decode cX12_fits 72 = .ok (.invokevirtual 217, 3) := by decide +kernel
theorem dX12_fits_75 : decode cX12_fits 75 = .ok (.iload 10, 2) := by decide +kernel
theorem dX12_fits_77 : decode cX12_fits 77 = .ok (.iadd, 1) := by decide +kernel
theorem dX12_fits_78 : decode cX12_fits 78 = .ok (.aload_n 0, 1) := by decide +kernel
theorem dX12_fits_79 : decode cX12_fits 79 = .ok (.iload 8, 2) := by decide +kernel
theorem dX12_fits_81 : decode cX12_fits 81 = .ok (.invokevirtual 217, 3) := by decide +kernel
theorem dX12_fits_84 : decode cX12_fits 84 = .ok (.if_icmp .gt 53, 3) := by decide +kernel
theorem dX12_fits_87 : decode cX12_fits 87 = .ok (.aload_n 0, 1) := by decide +kernel
theorem dX12_fits_88 : decode cX12_fits 88 = .ok (.iload 9, 2) := by decide +kernel
theorem dX12_fits_90 : decode cX12_fits 90 = .ok (.iload 6, 2) := by decide +kernel
theorem dX12_fits_92 : decode cX12_fits 92 = .ok (.iadd, 1) := by decide +kernel
theorem dX12_fits_93 : decode cX12_fits 93 = .ok (.invokevirtual 217, 3) := by decide +kernel
theorem dX12_fits_96 : decode cX12_fits 96 = .ok (.iload 10, 2) := by decide +kernel
theorem dX12_fits_98 : decode cX12_fits 98 = .ok (.iadd, 1) := by decide +kernel
theorem dX12_fits_99 : decode cX12_fits 99 = .ok (.aload_n 0, 1) := by decide +kernel
theorem dX12_fits_100 : decode cX12_fits 100 = .ok (.iload 8, 2) := by decide +kernel
theorem dX12_fits_102 : decode cX12_fits 102 = .ok (.iconst 1, 1) := by decide +kernel
theorem dX12_fits_103 : decode cX12_fits 103 = .ok (.iadd, 1) := by decide +kernel
theorem dX12_fits_104 : decode cX12_fits 104 = .ok (.invokevirtual 217, 3) := by decide +kernel
theorem dX12_fits_107 : decode cX12_fits 107 = .ok (.if_icmp .gt 30, 3) := by decide +kernel
theorem dX12_fits_110 : decode cX12_fits 110 = .ok (.aload_n 0, 1) := by decide +kernel
theorem dX12_fits_111 : decode cX12_fits 111 = .ok (.iload 9, 2) := by decide +kernel
theorem dX12_fits_113 : decode cX12_fits 113 = .ok (.iload 7, 2) := by decide +kernel
theorem dX12_fits_115 : decode cX12_fits 115 = .ok (.iadd, 1) := by decide +kernel
theorem dX12_fits_116 : decode cX12_fits 116 = .ok (.invokevirtual 217, 3) := by decide +kernel
theorem dX12_fits_119 : decode cX12_fits 119 = .ok (.iload 10, 2) := by decide +kernel
theorem dX12_fits_121 : decode cX12_fits 121 = .ok (.iadd, 1) := by decide +kernel
theorem dX12_fits_122 : decode cX12_fits 122 = .ok (.aload_n 0, 1) := by decide +kernel
theorem dX12_fits_123 : decode cX12_fits 123 = .ok (.iload 8, 2) := by decide +kernel
theorem dX12_fits_125 : decode cX12_fits 125 = .ok (.iconst 2, 1) := by decide +kernel
theorem dX12_fits_126 : decode cX12_fits 126 = .ok (.iadd, 1) := by decide +kernel
theorem dX12_fits_127 : decode cX12_fits 127 = .ok (.invokevirtual 217, 3) := by decide +kernel
theorem dX12_fits_130 : decode cX12_fits 130 = .ok (.if_icmp .gt 7, 3) := by decide +kernel
theorem dX12_fits_133 : decode cX12_fits 133 = .ok (.iconst 1, 1) := by decide +kernel
theorem dX12_fits_134 : decode cX12_fits 134 = .ok (.goto 4, 3) := by decide +kernel
theorem dX12_fits_137 : decode cX12_fits 137 = .ok (.iconst 0, 1) := by decide +kernel
theorem dX12_fits_138 : decode cX12_fits 138 = .ok (.ireturn, 1) := by decide +kernel
theorem dX12_goesInto_0 : decode cX12_goesInto 0 = .ok (.iconst 0, 1) := by decide +kernel
theorem dX12_goesInto_1 : decode cX12_goesInto 1 = .ok (.istore 4, 2) := by decide +kernel
theorem dX12_goesInto_3 : decode cX12_goesInto 3 = .ok (.iload 4, 2) := by decide +kernel
theorem dX12_goesInto_5 : decode cX12_goesInto 5 = .ok (.bipush 6, 2) := by decide +kernel
theorem dX12_goesInto_7 : decode cX12_goesInto 7 = .ok (.if_icmp .ge 23, 3) := by decide +kernel
theorem dX12_goesInto_10 : decode cX12_goesInto 10 = .ok (.aload_n 0, 1) := by decide +kernel
theorem dX12_goesInto_11 : decode cX12_goesInto 11 = .ok (.iload_n 1, 1) := by decide +kernel
theorem dX12_goesInto_12 : decode cX12_goesInto 12 = .ok (.iload_n 2, 1) := by decide +kernel
theorem dX12_goesInto_13 : decode cX12_goesInto 13 = .ok (.iload_n 3, 1) := by decide +kernel
theorem dX12_goesInto_14 : decode cX12_goesInto 14 = .ok (.iload 4, 2) := by decide +kernel
theorem dX12_goesInto_16 : decode cX12_goesInto 16 = .ok (.invokevirtual 287, 3) := by decide +kernel
theorem dX12_goesInto_19 : decode cX12_goesInto 19 = .ok (.ifCond .eq 5, 3) := by decide +kernel
theorem dX12_goesInto_22 : decode cX12_goesInto 22 = .ok (.iconst 1, 1) := by decide +kernel
theorem dX12_goesInto_23 : decode cX12_goesInto 23 = .ok (.ireturn, 1) := by decide +kernel
theorem dX12_goesInto_24 : decode cX12_goesInto 24 = .ok (.iinc 4 1, 3) := by decide +kernel
theorem dX12_goesInto_27 : decode cX12_goesInto 27 = .ok (.goto (-24), 3) := by decide +kernel
theorem dX12_goesInto_30 : decode cX12_goesInto 30 = .ok (.iconst 0, 1) := by decide +kernel
theorem dX12_goesInto_31 : decode cX12_goesInto 31 = .ok (.ireturn, 1) := by decide +kernel
theorem dX12_boxes_0 : decode cX12_boxes 0 = .ok (.aload_n 0, 1) := by decide +kernel
theorem dX12_boxes_1 : decode cX12_boxes 1 = .ok (.iconst 0, 1) := by decide +kernel
theorem dX12_boxes_2 : decode cX12_boxes 2 = .ok (.putfield 55, 3) := by decide +kernel
theorem dX12_boxes_5 : decode cX12_boxes 5 = .ok (.iload_n 1, 1) := by decide +kernel
theorem dX12_boxes_6 : decode cX12_boxes 6 = .ok (.iconst 0, 1) := by decide +kernel
theorem dX12_boxes_7 : decode cX12_boxes 7 = .ok (.sipush 2000, 3) := by decide +kernel
theorem dX12_boxes_10 : decode cX12_boxes 10 = .ok (.invokestatic 65, 3) := by decide +kernel
theorem dX12_boxes_13 : decode cX12_boxes 13 = .ok (.ifCond .eq 29, 3) := by decide +kernel
theorem dX12_boxes_16 : decode cX12_boxes 16 = .ok (.iload_n 2, 1) := by decide +kernel
theorem dX12_boxes_17 : decode cX12_boxes 17 = .ok (.iconst 1, 1) := by decide +kernel
theorem dX12_boxes_18 : decode cX12_boxes 18 = .ok (.bipush 8, 2) := by decide +kernel
theorem dX12_boxes_20 : decode cX12_boxes 20 = .ok (.invokestatic 65, 3) := by decide +kernel
theorem dX12_boxes_23 : decode cX12_boxes 23 = .ok (.ifCond .eq 19, 3) := by decide +kernel
theorem dX12_boxes_26 : decode cX12_boxes 26 = .ok (.aload_n 0, 1) := by decide +kernel
theorem dX12_boxes_27 : decode cX12_boxes 27 = .ok (.iload_n 3, 1) := by decide +kernel
theorem dX12_boxes_28 : decode cX12_boxes 28 = .ok (.invokevirtual 214, 3) := by decide +kernel
theorem dX12_boxes_31 : decode cX12_boxes 31 = .ok (.ifCond .eq 11, 3) := by decide +kernel
theorem dX12_boxes_34 : decode cX12_boxes 34 = .ok (.aload_n 0, 1) := by decide +kernel
theorem dX12_boxes_35 : decode cX12_boxes 35 = .ok (.iconst 1, 1) := by decide +kernel
theorem dX12_boxes_36 : decode cX12_boxes 36 = .ok (.invokevirtual 217, 3) := by decide +kernel
theorem dX12_boxes_39 : decode cX12_boxes 39 = .ok (.ifCond .ne 6, 3) := by decide +kernel
theorem dX12_boxes_42 : decode cX12_boxes 42 = .ok (.bipush (-2), 2) := by decide +kernel
theorem dX12_boxes_44 : decode cX12_boxes 44 = .ok (.ireturn, 1) := by decide +kernel
theorem dX12_boxes_45 : decode cX12_boxes 45 = .ok (.iconst (-1), 1) := by decide +kernel
theorem dX12_boxes_46 : decode cX12_boxes 46 = .ok (.istore 4, 2) := by decide +kernel
theorem dX12_boxes_48 : decode cX12_boxes 48 = .ok (.iconst 0, 1) := by decide +kernel
theorem dX12_boxes_49 : decode cX12_boxes 49 = .ok (.istore 5, 2) := by decide +kernel
theorem dX12_boxes_51 : decode cX12_boxes 51 = .ok (.iconst 1, 1) := by decide +kernel
theorem dX12_boxes_52 : decode cX12_boxes 52 = .ok (.istore 6, 2) := by decide +kernel
theorem dX12_boxes_54 : decode cX12_boxes 54 = .ok (.iload 6, 2) := by decide +kernel
theorem dX12_boxes_56 : decode cX12_boxes 56 = .ok (.iconst 1, 1) := by decide +kernel
theorem dX12_boxes_57 : decode cX12_boxes 57 = .ok (.aload_n 0, 1) := by decide +kernel
theorem dX12_boxes_58 : decode cX12_boxes 58 = .ok (.iconst 2, 1) := by decide +kernel
theorem dX12_boxes_59 : decode cX12_boxes 59 = .ok (.invokevirtual 217, 3) := by decide +kernel
theorem dX12_boxes_62 : decode cX12_boxes 62 = .ok (.ishl, 1) := by decide +kernel
theorem dX12_boxes_63 : decode cX12_boxes 63 = .ok (.if_icmp .ge 91, 3) := by decide +kernel
theorem dX12_boxes_66 : decode cX12_boxes 66 = .ok (.iconst 0, 1) := by decide +kernel
theorem dX12_boxes_67 : decode cX12_boxes 67 = .ok (.istore 7, 2) := by decide +kernel
theorem dX12_boxes_69 : decode cX12_boxes 69 = .ok (.iconst 0, 1) := by decide +kernel
theorem dX12_boxes_70 : decode cX12_boxes 70 = .ok (.istore 8, 2) := by decide +kernel
theorem dX12_boxes_72 : decode cX12_boxes 72 = .ok (.iload 8, 2) := by decide +kernel
theorem dX12_boxes_74 : decode cX12_boxes 74 = .ok (.aload_n 0, 1) := by decide +kernel
theorem dX12_boxes_75 : decode cX12_boxes 75 = .ok (.iconst 2, 1) := by decide +kernel
theorem dX12_boxes_76 : decode cX12_boxes 76 = .ok (.invokevirtual 217, 3) := by decide +kernel
theorem dX12_boxes_79 : decode cX12_boxes 79 = .ok (.if_icmp .ge 21, 3) := by decide +kernel
theorem dX12_boxes_82 : decode cX12_boxes 82 = .ok (.iload 7, 2) := by decide +kernel
theorem dX12_boxes_84 : decode cX12_boxes 84 = .ok (.iload 6, 2) := by decide +kernel
theorem dX12_boxes_86 : decode cX12_boxes 86 = .ok (.iload 8, 2) := by decide +kernel
theorem dX12_boxes_88 : decode cX12_boxes 88 = .ok (.ishr, 1) := by decide +kernel
theorem dX12_boxes_89 : decode cX12_boxes 89 = .ok (.iconst 1, 1) := by decide +kernel
theorem dX12_boxes_90 : decode cX12_boxes 90 = .ok (.iand, 1) := by decide +kernel
theorem dX12_boxes_91 : decode cX12_boxes 91 = .ok (.iadd, 1) := by decide +kernel
theorem dX12_boxes_92 : decode cX12_boxes 92 = .ok (.istore 7, 2) := by decide +kernel
theorem dX12_boxes_94 : decode cX12_boxes 94 = .ok (.iinc 8 1, 3) := by decide +kernel
theorem dX12_boxes_97 : decode cX12_boxes 97 = .ok (.goto (-25), 3) := by decide +kernel
theorem dX12_boxes_100 : decode cX12_boxes 100 = .ok (.iload 7, 2) := by decide +kernel
theorem dX12_boxes_102 : decode cX12_boxes 102 = .ok (.iload_n 2, 1) := by decide +kernel
theorem dX12_boxes_103 : decode cX12_boxes 103 = .ok (.if_icmp .le 6, 3) := by decide +kernel
theorem dX12_boxes_106 : decode cX12_boxes 106 = .ok (.goto 42, 3) := by decide +kernel
theorem dX12_boxes_109 : decode cX12_boxes 109 = .ok (.aload_n 0, 1) := by decide +kernel
theorem dX12_boxes_110 : decode cX12_boxes 110 = .ok (.iload 6, 2) := by decide +kernel
theorem dX12_boxes_112 : decode cX12_boxes 112 = .ok (.iload_n 1, 1) := by decide +kernel
theorem dX12_boxes_113 : decode cX12_boxes 113 = .ok (.invokevirtual 290, 3) := by decide +kernel
theorem dX12_boxes_116 : decode cX12_boxes 116 = .ok (.istore 8, 2) := by decide +kernel
theorem dX12_boxes_118 : decode cX12_boxes 118 = .ok (.iload 8, 2) := by decide +kernel
theorem dX12_boxes_120 : decode cX12_boxes 120 = .ok (.iconst (-1), 1) := by decide +kernel
theorem dX12_boxes_121 : decode cX12_boxes 121 = .ok (.if_icmp .eq 27, 3) := by decide +kernel
theorem dX12_boxes_124 : decode cX12_boxes 124 = .ok (.iload 4, 2) := by decide +kernel
theorem dX12_boxes_126 : decode cX12_boxes 126 = .ok (.iconst (-1), 1) := by decide +kernel
theorem dX12_boxes_127 : decode cX12_boxes 127 = .ok (.if_icmp .eq 13, 3) := by decide +kernel
theorem dX12_boxes_130 : decode cX12_boxes 130 = .ok (.iload 8, 2) := by decide +kernel
theorem dX12_boxes_132 : decode cX12_boxes 132 = .ok (.iload 4, 2) := by decide +kernel
theorem dX12_boxes_134 : decode cX12_boxes 134 = .ok (.if_icmp .lt 6, 3) := by decide +kernel
theorem dX12_boxes_137 : decode cX12_boxes 137 = .ok (.goto 11, 3) := by decide +kernel
theorem dX12_boxes_140 : decode cX12_boxes 140 = .ok (.iload 8, 2) := by decide +kernel
theorem dX12_boxes_142 : decode cX12_boxes 142 = .ok (.istore 4, 2) := by decide +kernel
theorem dX12_boxes_144 : decode cX12_boxes 144 = .ok (.iload 6, 2) := by decide +kernel
theorem dX12_boxes_146 : decode cX12_boxes 146 = .ok (.istore 5, 2) := by decide +kernel
theorem dX12_boxes_148 : decode cX12_boxes 148 = .ok (.iinc 6 1, 3) := by decide +kernel
theorem dX12_boxes_151 : decode cX12_boxes 151 = .ok (.goto (-97), 3) := by decide +kernel
theorem dX12_boxes_154 : decode cX12_boxes 154 = .ok (.iload 4, 2) := by decide +kernel
theorem dX12_boxes_156 : decode cX12_boxes 156 = .ok (.iconst (-1), 1) := by decide +kernel
theorem dX12_boxes_157 : decode cX12_boxes 157 = .ok (.if_icmp .eq 9, 3) := by decide +kernel
theorem dX12_boxes_160 : decode cX12_boxes 160 = .ok (.aload_n 0, 1) := by decide +kernel
theorem dX12_boxes_161 : decode cX12_boxes 161 = .ok (.iload 5, 2) := by decide +kernel
theorem dX12_boxes_163 : decode cX12_boxes 163 = .ok (.putfield 293, 3) := by decide +kernel
theorem dX12_boxes_166 : decode cX12_boxes 166 = .ok (.iload 4, 2) := by decide +kernel
theorem dX12_boxes_168 : decode cX12_boxes 168 = .ok (.ireturn, 1) := by decide +kernel
theorem dX12_costOf_0 : decode cX12_costOf 0 = .ok (.iconst 0, 1) := by decide +kernel
theorem dX12_costOf_1 : decode cX12_costOf 1 = .ok (.istore_n 3, 1) := by decide +kernel
theorem dX12_costOf_2 : decode cX12_costOf 2 = .ok (.iconst 0, 1) := by decide +kernel
theorem dX12_costOf_3 : decode cX12_costOf 3 = .ok (.istore 4, 2) := by decide +kernel
theorem dX12_costOf_5 : decode cX12_costOf 5 = .ok (.iload 4, 2) := by decide +kernel
theorem dX12_costOf_7 : decode cX12_costOf 7 = .ok (.aload_n 0, 1) := by decide +kernel
theorem dX12_costOf_8 : decode cX12_costOf 8 = .ok (.iconst 1, 1) := by decide +kernel
theorem dX12_costOf_9 : decode cX12_costOf 9 = .ok (.invokevirtual 217, 3) := by decide +kernel
theorem dX12_costOf_12 : decode cX12_costOf 12 = .ok (.if_icmp .ge 100, 3) := by decide +kernel
theorem dX12_costOf_15 : decode cX12_costOf 15 = .ok (.iconst (-1), 1) := by decide +kernel
theorem dX12_costOf_16 : decode cX12_costOf 16 = .ok (.istore 5, 2) := by decide +kernel
theorem dX12_costOf_18 : decode cX12_costOf 18 = .ok (.iconst 0, 1) := by decide +kernel
theorem dX12_costOf_19 : decode cX12_costOf 19 = .ok (.istore 6, 2) := by decide +kernel
theorem dX12_costOf_21 : decode cX12_costOf 21 = .ok (.iload 6, 2) := by decide +kernel
theorem dX12_costOf_23 : decode cX12_costOf 23 = .ok (.aload_n 0, 1) := by decide +kernel
theorem dX12_costOf_24 : decode cX12_costOf 24 = .ok (.iconst 2, 1) := by decide +kernel
theorem dX12_costOf_25 : decode cX12_costOf 25 = .ok (.invokevirtual 217, 3) := by decide +kernel
theorem dX12_costOf_28 : decode cX12_costOf 28 = .ok (.if_icmp .ge 65, 3) := by decide +kernel
theorem dX12_costOf_31 : decode cX12_costOf 31 = .ok (.aload_n 0, 1) := by decide +kernel
theorem dX12_costOf_32 : decode cX12_costOf 32 = .ok (.sipush 356, 3) := by decide +kernel
theorem dX12_costOf_35 : decode cX12_costOf 35 = .ok (.bipush 6, 2) := by decide +kernel
theorem dX12_costOf_37 : decode cX12_costOf 37 = .ok (.iload 6, 2) := by decide +kernel
theorem dX12_costOf_39 : decode cX12_costOf 39 = .ok (.imul, 1) := by decide +kernel
theorem dX12_costOf_40 : decode cX12_costOf 40 = .ok (.iadd, 1) := by decide +kernel
theorem dX12_costOf_41 : decode cX12_costOf 41 = .ok (.iconst 3, 1) := by decide +kernel
theorem dX12_costOf_42 : decode cX12_costOf 42 = .ok (.iadd, 1) := by decide +kernel
theorem dX12_costOf_43 : decode cX12_costOf 43 = .ok (.invokevirtual 217, 3) := by decide +kernel
theorem dX12_costOf_46 : decode cX12_costOf 46 = .ok (.istore 7, 2) := by decide +kernel
theorem dX12_costOf_48 : decode cX12_costOf 48 = .ok (.iload_n 1, 1) := by decide +kernel
theorem dX12_costOf_49 : decode cX12_costOf 49 = .ok (.iload 6, 2) := by decide +kernel
theorem dX12_costOf_51 : decode cX12_costOf 51 = .ok (.ishr, 1) := by decide +kernel
theorem dX12_costOf_52 : decode cX12_costOf 52 = .ok (.iconst 1, 1) := by decide +kernel
theorem dX12_costOf_53 : decode cX12_costOf 53 = .ok (.iand, 1) := by decide +kernel
theorem dX12_costOf_54 : decode cX12_costOf 54 = .ok (.iconst 1, 1) := by decide +kernel
theorem dX12_costOf_55 : decode cX12_costOf 55 = .ok (.if_icmp .ne 32, 3) := by decide +kernel
theorem dX12_costOf_58 : decode cX12_costOf 58 = .ok (.iload 5, 2) := by decide +kernel
theorem dX12_costOf_60 : decode cX12_costOf 60 = .ok (.iconst (-1), 1) := by decide +kernel
theorem dX12_costOf_61 : decode cX12_costOf 61 = .ok (.if_icmp .eq 10, 3) := by decide +kernel
theorem dX12_costOf_64 : decode cX12_costOf 64 = .ok (.iload 7, 2) := by decide +kernel
theorem dX12_costOf_66 : decode cX12_costOf 66 = .ok (.iload 5, 2) := by decide +kernel
theorem dX12_costOf_68 : decode cX12_costOf 68 = .ok (.if_icmp .ge 19, 3) := by decide +kernel
theorem dX12_costOf_71 : decode cX12_costOf 71 = .ok (.aload_n 0, 1) := by decide +kernel
theorem dX12_costOf_72 : decode cX12_costOf 72 = .ok (.iload 4, 2) := by decide +kernel
theorem dX12_costOf_74 : decode cX12_costOf 74 = .ok (.iload 6, 2) := by decide +kernel
theorem dX12_costOf_76 : decode cX12_costOf 76 = .ok (.iload_n 2, 1) := by decide +kernel
theorem dX12_costOf_77 : decode cX12_costOf 77 = .ok (.invokevirtual 296, 3) := by decide +kernel
theorem dX12_costOf_80 : decode cX12_costOf 80 = .ok (.ifCond .eq 7, 3) := by decide +kernel
theorem dX12_costOf_83 : decode cX12_costOf 83 = .ok (.iload 7, 2) := by decide +kernel
theorem dX12_costOf_85 : decode cX12_costOf 85 = .ok (.istore 5, 2) := by decide +kernel
theorem dX12_costOf_87 : decode cX12_costOf 87 = .ok (.iinc 6 1, 3) := by decide +kernel
theorem dX12_costOf_90 : decode cX12_costOf 90 = .ok (.goto (-69), 3) := by decide +kernel
theorem dX12_costOf_93 : decode cX12_costOf 93 = .ok (.iload 5, 2) := by decide +kernel
theorem dX12_costOf_95 : decode cX12_costOf 95 = .ok (.iconst (-1), 1) := by decide +kernel
theorem dX12_costOf_96 : decode cX12_costOf 96 = .ok (.if_icmp .ne 5, 3) := by decide +kernel
theorem dX12_costOf_99 : decode cX12_costOf 99 = .ok (.iconst (-1), 1) := by decide +kernel
theorem dX12_costOf_100 : decode cX12_costOf 100 = .ok (.ireturn, 1) := by decide +kernel
theorem dX12_costOf_101 : decode cX12_costOf 101 = .ok (.iload_n 3, 1) := by decide +kernel
theorem dX12_costOf_102 : decode cX12_costOf 102 = .ok (.iload 5, 2) := by decide +kernel
theorem dX12_costOf_104 : decode cX12_costOf 104 = .ok (.iadd, 1) := by decide +kernel
theorem dX12_costOf_105 : decode cX12_costOf 105 = .ok (.istore_n 3, 1) := by decide +kernel
theorem dX12_costOf_106 : decode cX12_costOf 106 = .ok (.iinc 4 1, 3) := by decide +kernel
theorem dX12_costOf_109 : decode cX12_costOf 109 = .ok (.goto (-104), 3) := by decide +kernel
theorem dX12_costOf_112 : decode cX12_costOf 112 = .ok (.iload_n 3, 1) := by decide +kernel
theorem dX12_costOf_113 : decode cX12_costOf 113 = .ok (.ireturn, 1) := by decide +kernel
theorem dX12_boxSet_0 : decode cX12_boxSet 0 = .ok (.aload_n 0, 1) := by decide +kernel
theorem dX12_boxSet_1 : decode cX12_boxSet 1 = .ok (.iconst 0, 1) := by decide +kernel
theorem dX12_boxSet_2 : decode cX12_boxSet 2 = .ok (.putfield 55, 3) := by decide +kernel
theorem dX12_boxSet_5 : decode cX12_boxSet 5 = .ok (.aload_n 0, 1) := by decide +kernel
theorem dX12_boxSet_6 : decode cX12_boxSet 6 = .ok (.getfield 293, 3) := by decide +kernel
theorem dX12_boxSet_9 : decode cX12_boxSet 9 = .ok (.ireturn, 1) := by decide +kernel
theorem dX12_stack_0 : decode cX12_stack 0 = .ok (.aload_n 0, 1) := by decide +kernel
theorem dX12_stack_1 : decode cX12_stack 1 = .ok (.iconst 0, 1) := by decide +kernel
theorem dX12_stack_2 : decode cX12_stack 2 = .ok (.putfield 55, 3) := by decide +kernel
theorem dX12_stack_5 : decode cX12_stack 5 = .ok (.aload_n 0, 1) := by decide +kernel
theorem dX12_stack_6 : decode cX12_stack 6 = .ok (.invokevirtual 201, 3) := by decide +kernel
theorem dX12_stack_9 : decode cX12_stack 9 = .ok (.istore 5, 2) := by decide +kernel
theorem dX12_stack_11 : decode cX12_stack 11 = .ok (.aload_n 0, 1) := by decide +kernel
theorem dX12_stack_12 : decode cX12_stack 12 = .ok (.iconst 2, 1) := by decide +kernel
theorem dX12_stack_13 : decode cX12_stack 13 = .ok (.iload_n 1, 1) := by decide +kernel
theorem dX12_stack_14 : decode cX12_stack 14 = .ok (.iload 4, 2) := by decide +kernel
theorem dX12_stack_16 : decode cX12_stack 16 = .ok (.invokevirtual 223, 3) := by decide +kernel
theorem dX12_stack_19 : decode cX12_stack 19 = .ok (.ifCond .eq 35, 3) := by decide +kernel
theorem dX12_stack_22 : decode cX12_stack 22 = .ok (.iload_n 2, 1) := by decide +kernel
theorem dX12_stack_23 : decode cX12_stack 23 = .ok (.iconst 1, 1) := by decide +kernel
theorem dX12_stack_24 : decode cX12_stack 24 = .ok (.bipush 99, 2) := by decide +kernel
theorem dX12_stack_26 : decode cX12_stack 26 = .ok (.invokestatic 65, 3) := by decide +kernel
theorem dX12_stack_29 : decode cX12_stack 29 = .ok (.ifCond .eq 25, 3) := by decide +kernel
theorem dX12_stack_32 : decode cX12_stack 32 = .ok (.iload_n 3, 1) := by decide +kernel
theorem dX12_stack_33 : decode cX12_stack 33 = .ok (.iconst 0, 1) := by decide +kernel
theorem dX12_stack_34 : decode cX12_stack 34 = .ok (.ldc 173, 2) := by decide +kernel
theorem dX12_stack_36 : decode cX12_stack 36 = .ok (.invokestatic 65, 3) := by decide +kernel
theorem dX12_stack_39 : decode cX12_stack 39 = .ok (.ifCond .eq 15, 3) := by decide +kernel
theorem dX12_stack_42 : decode cX12_stack 42 = .ok (.iload 5, 2) := by decide +kernel
theorem dX12_stack_44 : decode cX12_stack 44 = .ok (.iconst 1, 1) := by decide +kernel
theorem dX12_stack_45 : decode cX12_stack 45 = .ok (.sipush 400, 3) := by decide +kernel
theorem dX12_stack_48 : decode cX12_stack 48 = .ok (.invokestatic 65, 3) := by decide +kernel
theorem dX12_stack_51 : decode cX12_stack 51 = .ok (.ifCond .ne 6, 3) := by decide +kernel
theorem dX12_stack_54 : decode cX12_stack 54 = .ok (.bipush (-2), 2) := by decide +kernel
theorem dX12_stack_56 : decode cX12_stack 56 = .ok (.ireturn, 1) := by decide +kernel
theorem dX12_stack_57 : decode cX12_stack 57 = .ok (.iconst 0, 1) := by decide +kernel
theorem dX12_stack_58 : decode cX12_stack 58 = .ok (.istore 6, 2) := by decide +kernel
theorem dX12_stack_60 : decode cX12_stack 60 = .ok (.iload 6, 2) := by decide +kernel
theorem dX12_stack_62 : decode cX12_stack 62 = .ok (.iload 5, 2) := by decide +kernel
theorem dX12_stack_64 : decode cX12_stack 64 = .ok (.if_icmp .ge 45, 3) := by decide +kernel
theorem dX12_stack_67 : decode cX12_stack 67 = .ok (.iload_n 2, 1) := by decide +kernel
theorem dX12_stack_68 : decode cX12_stack 68 = .ok (.iconst 1, 1) := by decide +kernel
theorem dX12_stack_69 : decode cX12_stack 69 = .ok (.isub, 1) := by decide +kernel
theorem dX12_stack_70 : decode cX12_stack 70 = .ok (.iload_n 3, 1) := by decide +kernel
theorem dX12_stack_71 : decode cX12_stack 71 = .ok (.imul, 1) := by decide +kernel
theorem dX12_stack_72 : decode cX12_stack 72 = .ok (.aload_n 0, 1) := by decide +kernel
theorem dX12_stack_73 : decode cX12_stack 73 = .ok (.sipush 356, 3) := by decide +kernel
theorem dX12_stack_76 : decode cX12_stack 76 = .ok (.bipush 6, 2) := by decide +kernel
theorem dX12_stack_78 : decode cX12_stack 78 = .ok (.iload_n 1, 1) := by decide +kernel
theorem dX12_stack_79 : decode cX12_stack 79 = .ok (.imul, 1) := by decide +kernel
theorem dX12_stack_80 : decode cX12_stack 80 = .ok (.iadd, 1) := by decide +kernel
theorem dX12_stack_81 : decode cX12_stack 81 = .ok (.iconst 4, 1) := by decide +kernel
theorem dX12_stack_82 : decode cX12_stack 82 = .ok (.iadd, 1) := by decide +kernel
theorem dX12_stack_83 : decode cX12_stack 83 = .ok (.invokevirtual 217, 3) := by decide +kernel
theorem dX12_stack_86 : decode cX12_stack 86 = .ok (.aload_n 0, 1) := by decide +kernel
theorem dX12_stack_87 : decode cX12_stack 87 = .ok (.getfield 7, 3) := by decide +kernel
theorem dX12_stack_90 : decode cX12_stack 90 = .ok (.iload 6, 2) := by decide +kernel
theorem dX12_stack_92 : decode cX12_stack 92 = .ok (.iaload, 1) := by decide +kernel
theorem dX12_stack_93 : decode cX12_stack 93 = .ok (.imul, 1) := by decide +kernel
theorem dX12_stack_94 : decode cX12_stack 94 = .ok (.bipush 100, 2) := by decide +kernel
theorem dX12_stack_96 : decode cX12_stack 96 = .ok (.idiv, 1) := by decide +kernel
theorem dX12_stack_97 : decode cX12_stack 97 = .ok (.if_icmp .le 6, 3) := by decide +kernel
theorem dX12_stack_100 : decode cX12_stack 100 = .ok (.iload 6, 2) := by decide +kernel
theorem dX12_stack_102 : decode cX12_stack 102 = .ok (.ireturn, 1) := by decide +kernel
theorem dX12_stack_103 : decode cX12_stack 103 = .ok (.iinc 6 1, 3) := by decide +kernel
theorem dX12_stack_106 : decode cX12_stack 106 = .ok (.goto (-46), 3) := by decide +kernel
theorem dX12_stack_109 : decode cX12_stack 109 = .ok (.iconst (-1), 1) := by decide +kernel
theorem dX12_stack_110 : decode cX12_stack 110 = .ok (.ireturn, 1) := by decide +kernel
theorem dX12_journey_0 : decode cX12_journey 0 = .ok (.aload_n 0, 1) := by decide +kernel
theorem dX12_journey_1 : decode cX12_journey 1 = .ok (.getfield 58, 3) := by decide +kernel
theorem dX12_journey_4 : decode cX12_journey 4 = .ok (.istore_n 3, 1) := by decide +kernel
theorem dX12_journey_5 : decode cX12_journey 5 = .ok (.aload_n 0, 1) := by decide +kernel
theorem dX12_journey_6 : decode cX12_journey 6 = .ok (.iconst 1, 1) := by decide +kernel
theorem dX12_journey_7 : decode cX12_journey 7 = .ok (.iload_n 1, 1) := by decide +kernel
theorem dX12_journey_8 : decode cX12_journey 8 = .ok (.iload_n 2, 1) := by decide +kernel
theorem dX12_journey_9 : decode cX12_journey 9 = .ok (.invokevirtual 223, 3) := by decide +kernel
theorem dX12_journey_12 : decode cX12_journey 12 = .ok (.ifCond .eq 27, 3) := by decide +kernel
theorem dX12_journey_15 : decode cX12_journey 15 = .ok (.iload_n 3, 1) := by decide +kernel
theorem dX12_journey_16 : decode cX12_journey 16 = .ok (.bipush 10, 2) := by decide +kernel
theorem dX12_journey_18 : decode cX12_journey 18 = .ok (.irem, 1) := by decide +kernel
theorem dX12_journey_19 : decode cX12_journey 19 = .ok (.ifCond .ne 20, 3) := by decide +kernel
theorem dX12_journey_22 : decode cX12_journey 22 = .ok (.iload_n 3, 1) := by decide +kernel
theorem dX12_journey_23 : decode cX12_journey 23 = .ok (.bipush 10, 2) := by decide +kernel
theorem dX12_journey_25 : decode cX12_journey 25 = .ok (.idiv, 1) := by decide +kernel
theorem dX12_journey_26 : decode cX12_journey 26 = .ok (.iconst 1, 1) := by decide +kernel
theorem dX12_journey_27 : decode cX12_journey 27 = .ok (.bipush 40, 2) := by decide +kernel
theorem dX12_journey_29 : decode cX12_journey 29 = .ok (.invokestatic 65, 3) := by decide +kernel
theorem dX12_journey_32 : decode cX12_journey 32 = .ok (.ifCond .eq 7, 3) := by decide +kernel
theorem dX12_journey_35 : decode cX12_journey 35 = .ok (.iconst 1, 1) := by decide +kernel
theorem dX12_journey_36 : decode cX12_journey 36 = .ok (.goto 4, 3) := by decide +kernel
theorem dX12_journey_39 : decode cX12_journey 39 = .ok (.iconst 0, 1) := by decide +kernel
theorem dX12_journey_40 : decode cX12_journey 40 = .ok (.istore 4, 2) := by decide +kernel
theorem dX12_journey_42 : decode cX12_journey 42 = .ok (.iconst 0, 1) := by decide +kernel
theorem dX12_journey_43 : decode cX12_journey 43 = .ok (.istore 5, 2) := by decide +kernel
theorem dX12_journey_45 : decode cX12_journey 45 = .ok (.iload 5, 2) := by decide +kernel
theorem dX12_journey_47 : decode cX12_journey 47 = .ok (.iload_n 3, 1) := by decide +kernel
theorem dX12_journey_48 : decode cX12_journey 48 = .ok (.if_icmp .ge 109, 3) := by decide +kernel
theorem dX12_journey_51 : decode cX12_journey 51 = .ok (.iload 4, 2) := by decide +kernel
theorem dX12_journey_53 : decode cX12_journey 53 = .ok (.ifCond .eq 104, 3) := by decide +kernel
theorem dX12_journey_56 : decode cX12_journey 56 = .ok (.aload_n 0, 1) := by decide +kernel
theorem dX12_journey_57 : decode cX12_journey 57 = .ok (.getfield 7, 3) := by decide +kernel
theorem dX12_journey_60 : decode cX12_journey 60 = .ok (.iload 5, 2) := by decide +kernel
theorem dX12_journey_62 : decode cX12_journey 62 = .ok (.iaload, 1) := by decide +kernel
theorem dX12_journey_63 : decode cX12_journey 63 = .ok (.bipush 6, 2) := by decide +kernel
theorem dX12_journey_65 : decode cX12_journey 65 = .ok (.if_icmp .ge 42, 3) := by decide +kernel
theorem dX12_journey_68 : decode cX12_journey 68 = .ok (.aload_n 0, 1) := by decide +kernel
theorem dX12_journey_69 : decode cX12_journey 69 = .ok (.getfield 7, 3) := by decide +kernel
theorem dX12_journey_72 : decode cX12_journey 72 = .ok (.iload 5, 2) := by decide +kernel
theorem dX12_journey_74 : decode cX12_journey 74 = .ok (.bipush 7, 2) := by decide +kernel
theorem dX12_journey_76 : decode cX12_journey 76 = .ok (.iadd, 1) := by decide +kernel
theorem dX12_journey_77 : decode cX12_journey 77 = .ok (.iaload, 1) := by decide +kernel
theorem dX12_journey_78 : decode cX12_journey 78 = .ok (.aload_n 0, 1) := by decide +kernel
theorem dX12_journey_79 : decode cX12_journey 79 = .ok (.getfield 7, 3) := by decide +kernel
theorem dX12_journey_82 : decode cX12_journey 82 = .ok (.iload 5, 2) := by decide +kernel
theorem dX12_journey_84 : decode cX12_journey 84 = .ok (.bipush 8, 2) := by decide +kernel
theorem dX12_journey_86 : decode cX12_journey 86 = .ok (.iadd, 1) := by decide +kernel
theorem dX12_journey_87 : decode cX12_journey 87 = .ok (.iaload, 1) := by decide +kernel
theorem dX12_journey_88 : decode cX12_journey 88 = .ok (.iadd, 1) := by decide +kernel
theorem dX12_journey_89 : decode cX12_journey 89 = .ok (.aload_n 0, 1) := by decide +kernel
theorem dX12_journey_90 : decode cX12_journey 90 = .ok (.getfield 7, 3) := by decide +kernel
theorem dX12_journey_93 : decode cX12_journey 93 = .ok (.iload 5, 2) := by decide +kernel
theorem dX12_journey_95 : decode cX12_journey 95 = .ok (.bipush 9, 2) := by decide +kernel
theorem dX12_journey_97 : decode cX12_journey 97 = .ok (.iadd, 1) := by decide +kernel
theorem dX12_journey_98 : decode cX12_journey 98 = .ok (.iaload, 1) := by decide +kernel
theorem dX12_journey_99 : decode cX12_journey 99 = .ok (.iadd, 1) := by decide +kernel
theorem dX12_journey_100 : decode cX12_journey 100 = .ok (.ifCond .le 7, 3) := by decide +kernel
theorem dX12_journey_103 : decode cX12_journey 103 = .ok (.iconst 1, 1) := by decide +kernel
theorem dX12_journey_104 : decode cX12_journey 104 = .ok (.goto 4, 3) := by decide +kernel
theorem dX12_journey_107 : decode cX12_journey 107 = .ok (.iconst 0, 1) := by decide +kernel
theorem dX12_journey_108 : decode cX12_journey 108 = .ok (.istore 4, 2) := by decide +kernel
theorem dX12_journey_110 : decode cX12_journey 110 = .ok (.iconst 0, 1) := by decide +kernel
theorem dX12_journey_111 : decode cX12_journey 111 = .ok (.istore 6, 2) := by decide +kernel
theorem dX12_journey_113 : decode cX12_journey 113 = .ok (.iload 6, 2) := by decide +kernel
theorem dX12_journey_115 : decode cX12_journey 115 = .ok (.iconst 3, 1) := by decide +kernel
theorem dX12_journey_116 : decode cX12_journey 116 = .ok (.if_icmp .ge 35, 3) := by decide +kernel
theorem dX12_journey_119 : decode cX12_journey 119 = .ok (.iload 4, 2) := by decide +kernel
theorem dX12_journey_121 : decode cX12_journey 121 = .ok (.ifCond .eq 30, 3) := by decide +kernel
theorem dX12_journey_124 : decode cX12_journey 124 = .ok (.aload_n 0, 1) := by decide +kernel
theorem dX12_journey_125 : decode cX12_journey 125 = .ok (.iload 5, 2) := by decide +kernel
theorem dX12_journey_127 : decode cX12_journey 127 = .ok (.iload 6, 2) := by decide +kernel
theorem dX12_journey_129 : decode cX12_journey 129 = .ok (.invokevirtual 299, 3) := by decide +kernel
theorem dX12_journey_132 : decode cX12_journey 132 = .ok (.sipush 30000, 3) := by decide +kernel
theorem dX12_journey_135 : decode cX12_journey 135 = .ok (.if_icmp .gt 7, 3) := by decide +kernel
theorem dX12_journey_138 : decode cX12_journey 138 = .ok (.iconst 1, 1) := by decide +kernel
theorem dX12_journey_139 : decode cX12_journey 139 = .ok (.goto 4, 3) := by decide +kernel
theorem dX12_journey_142 : decode cX12_journey 142 = .ok (.iconst 0, 1) := by decide +kernel
theorem dX12_journey_143 : decode cX12_journey 143 = .ok (.istore 4, 2) := by decide +kernel
theorem dX12_journey_145 : decode cX12_journey 145 = .ok (.iinc 6 1, 3) := by decide +kernel
theorem dX12_journey_148 : decode cX12_journey 148 = .ok (.goto (-35), 3) := by decide +kernel
theorem dX12_journey_151 : decode cX12_journey 151 = .ok (.iinc 5 10, 3) := by decide +kernel
theorem dX12_journey_154 : decode cX12_journey 154 = .ok (.goto (-109), 3) := by decide +kernel
theorem dX12_journey_157 : decode cX12_journey 157 = .ok (.aload_n 0, 1) := by decide +kernel
theorem dX12_journey_158 : decode cX12_journey 158 = .ok (.iload 4, 2) := by decide +kernel
theorem dX12_journey_160 : decode cX12_journey 160 = .ok (.ifCond .eq 7, 3) := by decide +kernel
theorem dX12_journey_163 : decode cX12_journey 163 = .ok (.iconst 0, 1) := by decide +kernel
theorem dX12_journey_164 : decode cX12_journey 164 = .ok (.goto 4, 3) := by decide +kernel
theorem dX12_journey_167 : decode cX12_journey 167 = .ok (.iconst 1, 1) := by decide +kernel
theorem dX12_journey_168 : decode cX12_journey 168 = .ok (.putfield 55, 3) := by decide +kernel
theorem dX12_journey_171 : decode cX12_journey 171 = .ok (.iload 4, 2) := by decide +kernel
theorem dX12_journey_173 : decode cX12_journey 173 = .ok (.ifCond .ne 5, 3) := by decide +kernel
theorem dX12_journey_176 : decode cX12_journey 176 = .ok (.lconst 0, 1) := by decide +kernel
theorem dX12_journey_177 : decode cX12_journey 177 = .ok (.lreturn, 1) := by decide +kernel
theorem dX12_journey_178 : decode cX12_journey 178 = .ok (.aload_n 0, 1) := by decide +kernel
theorem dX12_journey_179 : decode cX12_journey 179 = .ok (.iconst 0, 1) := by decide +kernel
theorem dX12_journey_180 : decode cX12_journey 180 = .ok (.putfield 58, 3) := by decide +kernel
theorem dX12_journey_183 : decode cX12_journey 183 = .ok (.ldc2_w 302, 3) := by decide +kernel
theorem dX12_journey_186 : decode cX12_journey 186 = .ok (.lstore 5, 2) := by decide +kernel
theorem dX12_journey_188 : decode cX12_journey 188 = .ok (.iconst 0, 1) := by decide +kernel
theorem dX12_journey_189 : decode cX12_journey 189 = .ok (.istore 7, 2) := by decide +kernel
theorem dX12_journey_191 : decode cX12_journey 191 = .ok (.iload 7, 2) := by decide +kernel
theorem dX12_journey_193 : decode cX12_journey 193 = .ok (.iload_n 3, 1) := by decide +kernel
theorem dX12_journey_194 : decode cX12_journey 194 = .ok (.if_icmp .ge 146, 3) := by decide +kernel
theorem dX12_journey_197 : decode cX12_journey 197 = .ok (.aload_n 0, 1) := by decide +kernel
theorem dX12_journey_198 : decode cX12_journey 198 = .ok (.iload_n 1, 1) := by decide +kernel
theorem dX12_journey_199 : decode cX12_journey 199 = .ok (.aload_n 0, 1) := by decide +kernel
theorem dX12_journey_200 : decode cX12_journey 200 = .ok (.getfield 7, 3) := by decide +kernel
theorem dX12_journey_203 : decode cX12_journey 203 = .ok (.iload 7, 2) := by decide +kernel
theorem dX12_journey_205 : decode cX12_journey 205 = .ok (.iaload, 1) := by decide +kernel
theorem dX12_journey_206 : decode cX12_journey 206 = .ok (.invokevirtual 252, 3) := by decide +kernel
theorem dX12_journey_209 : decode cX12_journey 209 = .ok (.istore 8, 2) := by decide +kernel
theorem dX12_journey_211 : decode cX12_journey 211 = .ok (.iload 8, 2) := by decide +kernel
theorem dX12_journey_213 : decode cX12_journey 213 = .ok (.ifCond .eq 13, 3) := by decide +kernel
theorem dX12_journey_216 : decode cX12_journey 216 = .ok (.aload_n 0, 1) := by decide +kernel
theorem dX12_journey_217 : decode cX12_journey 217 = .ok (.aload_n 0, 1) := by decide +kernel
theorem dX12_journey_218 : decode cX12_journey 218 = .ok (.getfield 239, 3) := by decide +kernel
theorem dX12_journey_221 : decode cX12_journey 221 = .ok (.bipush 100, 2) := by decide +kernel
theorem dX12_journey_223 : decode cX12_journey 223 = .ok (.invokevirtual 226, 3) := by decide +kernel
theorem dX12_journey_226 : decode cX12_journey 226 = .ok (.iconst 0, 1) := by decide +kernel
theorem dX12_journey_227 : decode cX12_journey 227 = .ok (.istore 9, 2) := by decide +kernel
theorem dX12_journey_229 : decode cX12_journey 229 = .ok (.iconst 0, 1) := by decide +kernel
theorem dX12_journey_230 : decode cX12_journey 230 = .ok (.istore 10, 2) := by decide +kernel
theorem dX12_journey_232 : decode cX12_journey 232 = .ok (.iload 10, 2) := by decide +kernel
theorem dX12_journey_234 : decode cX12_journey 234 = .ok (.iconst 3, 1) := by decide +kernel
theorem dX12_journey_235 : decode cX12_journey 235 = .ok (.if_icmp .ge 57, 3) := by decide +kernel
theorem dX12_journey_238 : decode cX12_journey 238 = .ok (.iload 8, 2) := by decide +kernel
theorem dX12_journey_240 : decode cX12_journey 240 = .ok (.ifCond .eq 46, 3) := by decide +kernel
theorem dX12_journey_243 : decode cX12_journey 243 = .ok (.aload_n 0, 1) := by decide +kernel
theorem dX12_journey_244 : decode cX12_journey 244 = .ok (.aload_n 0, 1) := by decide +kernel
theorem dX12_journey_245 : decode cX12_journey 245 = .ok (.iload_n 1, 1) := by decide +kernel
theorem dX12_journey_246 : decode cX12_journey 246 = .ok (.invokevirtual 255, 3) := by decide +kernel
theorem dX12_journey_249 : decode cX12_journey 249 = .ok (.aload_n 0, 1) := by decide +kernel
theorem dX12_journey_250 : decode cX12_journey 250 = .ok (.iload 7, 2) := by decide +kernel
theorem dX12_journey_252 : decode cX12_journey 252 = .ok (.iload 10, 2) := by decide +kernel
theorem dX12_journey_254 : decode cX12_journey 254 = .ok (.invokevirtual 299, 3) := by decide +kernel
theorem dX12_journey_257 : decode cX12_journey 257 = .ok (.aload_n 0, 1) := by decide +kernel
theorem dX12_journey_258 : decode cX12_journey 258 = .ok (.iload_n 1, 1) := by decide +kernel
theorem dX12_journey_259 : decode cX12_journey 259 = .ok (.invokevirtual 270, 3) := by decide +kernel
theorem dX12_journey_262 : decode cX12_journey 262 = .ok (.invokevirtual 273, 3) := by decide +kernel
theorem dX12_journey_265 : decode cX12_journey 265 = .ok (.ifCond .eq 21, 3) := by decide +kernel
theorem dX12_journey_268 : decode cX12_journey 268 = .ok (.iload 9, 2) := by decide +kernel
theorem dX12_journey_270 : decode cX12_journey 270 = .ok (.aload_n 0, 1) := by decide +kernel
theorem dX12_journey_271 : decode cX12_journey 271 = .ok (.getfield 7, 3) := by decide +kernel
theorem dX12_journey_274 : decode cX12_journey 274 = .ok (.iload 7, 2) := by decide +kernel
theorem dX12_journey_276 : decode cX12_journey 276 = .ok (.bipush 7, 2) := by decide +kernel
theorem dX12_journey_278 : decode cX12_journey 278 = .ok (.iadd, 1) := by decide +kernel
theorem dX12_journey_279 : decode cX12_journey 279 = .ok (.iload 10, 2) := by decide +kernel
theorem dX12_journey_281 : decode cX12_journey 281 = .ok (.iadd, 1) := by decide +kernel
theorem dX12_journey_282 : decode cX12_journey 282 = .ok (.iaload, 1) := by decide +kernel
theorem dX12_journey_283 : decode cX12_journey 283 = .ok (.iadd, 1) := by decide +kernel
theorem dX12_journey_284 : decode cX12_journey 284 = .ok (.istore 9, 2) := by decide +kernel
theorem dX12_journey_286 : decode cX12_journey 286 = .ok (.iinc 10 1, 3) := by decide +kernel
theorem dX12_journey_289 : decode cX12_journey 289 = .ok (.goto (-57), 3) := by decide +kernel
theorem dX12_journey_292 : decode cX12_journey 292 = .ok (.lload 5, 2) := by decide +kernel
theorem dX12_journey_294 : decode cX12_journey 294 = .ok (.iload 9, 2) := by decide +kernel
theorem dX12_journey_296 : decode cX12_journey 296 = .ok (.i2l, 1) := by decide +kernel
theorem dX12_journey_297 : decode cX12_journey 297 = .ok (.lmul, 1) := by decide +kernel
theorem dX12_journey_298 : decode cX12_journey 298 = .ok (.aload_n 0, 1) := by decide +kernel
theorem dX12_journey_299 : decode cX12_journey 299 = .ok (.getfield 7, 3) := by decide +kernel
theorem dX12_journey_302 : decode cX12_journey 302 = .ok (.iload 7, 2) := by decide +kernel
theorem dX12_journey_304 : decode cX12_journey 304 = .ok (.bipush 7, 2) := by decide +kernel
theorem dX12_journey_306 : decode cX12_journey 306 = .ok (.iadd, 1) := by decide +kernel
theorem dX12_journey_307 : decode cX12_journey 307 = .ok (.iaload, 1) := by decide +kernel
theorem dX12_journey_308 : decode cX12_journey 308 = .ok (.aload_n 0, 1) := by decide +kernel
theorem dX12_journey_309 : decode cX12_journey 309 = .ok (.getfield 7, 3) := by decide +kernel
theorem dX12_journey_312 : decode cX12_journey 312 = .ok (.iload 7, 2) := by decide +kernel
theorem dX12_journey_314 : decode cX12_journey 314 = .ok (.bipush 8, 2) := by decide +kernel
theorem dX12_journey_316 : decode cX12_journey 316 = .ok (.iadd, 1) := by decide +kernel
theorem dX12_journey_317 : decode cX12_journey 317 = .ok (.iaload, 1) := by decide +kernel
theorem dX12_journey_318 : decode cX12_journey 318 = .ok (.iadd, 1) := by decide +kernel
theorem dX12_journey_319 : decode cX12_journey 319 = .ok (.aload_n 0, 1) := by decide +kernel
theorem dX12_journey_320 : decode cX12_journey 320 = .ok (.getfield 7, 3) := by decide +kernel
theorem dX12_journey_323 : decode cX12_journey 323 = .ok (.iload 7, 2) := by decide +kernel
theorem dX12_journey_325 : decode cX12_journey 325 = .ok (.bipush 9, 2) := by decide +kernel
theorem dX12_journey_327 : decode cX12_journey 327 = .ok (.iadd, 1) := by decide +kernel
theorem dX12_journey_328 : decode cX12_journey 328 = .ok (.iaload, 1) := by decide +kernel
theorem dX12_journey_329 : decode cX12_journey 329 = .ok (.iadd, 1) := by decide +kernel
theorem dX12_journey_330 : decode cX12_journey 330 = .ok (.i2l, 1) := by decide +kernel
theorem dX12_journey_331 : decode cX12_journey 331 = .ok (.ldiv, 1) := by decide +kernel
theorem dX12_journey_332 : decode cX12_journey 332 = .ok (.lstore 5, 2) := by decide +kernel
theorem dX12_journey_334 : decode cX12_journey 334 = .ok (.iinc 7 10, 3) := by decide +kernel
theorem dX12_journey_337 : decode cX12_journey 337 = .ok (.goto (-146), 3) := by decide +kernel
theorem dX12_journey_340 : decode cX12_journey 340 = .ok (.lload 5, 2) := by decide +kernel
theorem dX12_journey_342 : decode cX12_journey 342 = .ok (.lreturn, 1) := by decide +kernel
theorem dX12_heightAt_0 : decode cX12_heightAt 0 = .ok (.sipush 256, 3) := by decide +kernel
theorem dX12_heightAt_3 : decode cX12_heightAt 3 = .ok (.aload_n 0, 1) := by decide +kernel
theorem dX12_heightAt_4 : decode cX12_heightAt 4 = .ok (.getfield 7, 3) := by decide +kernel
theorem dX12_heightAt_7 : decode cX12_heightAt 7 = .ok (.iload_n 1, 1) := by decide +kernel
theorem dX12_heightAt_8 : decode cX12_heightAt 8 = .ok (.iconst 1, 1) := by decide +kernel
theorem dX12_heightAt_9 : decode cX12_heightAt 9 = .ok (.iadd, 1) := by decide +kernel
theorem dX12_heightAt_10 : decode cX12_heightAt 10 = .ok (.iconst 2, 1) := by decide +kernel
theorem dX12_heightAt_11 : decode cX12_heightAt 11 = .ok (.iload_n 2, 1) := by decide +kernel
theorem dX12_heightAt_12 : decode cX12_heightAt 12 = .ok (.imul, 1) := by decide +kernel
theorem dX12_heightAt_13 : decode cX12_heightAt 13 = .ok (.iadd, 1) := by decide +kernel
theorem dX12_heightAt_14 : decode cX12_heightAt 14 = .ok (.iaload, 1) := by decide +kernel
theorem dX12_heightAt_15 : decode cX12_heightAt 15 = .ok (.imul, 1) := by decide +kernel
theorem dX12_heightAt_16 : decode cX12_heightAt 16 = .ok (.aload_n 0, 1) := by decide +kernel
theorem dX12_heightAt_17 : decode cX12_heightAt 17 = .ok (.getfield 7, 3) := by decide +kernel
theorem dX12_heightAt_20 : decode cX12_heightAt 20 = .ok (.iload_n 1, 1) := by decide +kernel
theorem dX12_heightAt_21 : decode cX12_heightAt 21 = .ok (.iconst 2, 1) := by decide +kernel
theorem dX12_heightAt_22 : decode cX12_heightAt 22 = .ok (.iadd, 1) := by decide +kernel
theorem dX12_heightAt_23 : decode cX12_heightAt 23 = .ok (.iconst 2, 1) := by decide +kernel
theorem dX12_heightAt_24 : decode cX12_heightAt 24 = .ok (.iload_n 2, 1) := by decide +kernel
theorem dX12_heightAt_25 : decode cX12_heightAt 25 = .ok (.imul, 1) := by decide +kernel
theorem dX12_heightAt_26 : decode cX12_heightAt 26 = .ok (.iadd, 1) := by decide +kernel
theorem dX12_heightAt_27 : decode cX12_heightAt 27 = .ok (.iaload, 1) := by decide +kernel
theorem dX12_heightAt_28 : decode cX12_heightAt 28 = .ok (.iadd, 1) := by decide +kernel
theorem dX12_heightAt_29 : decode cX12_heightAt 29 = .ok (.ireturn, 1) := by decide +kernel
theorem dX12_power_0 : decode cX12_power 0 = .ok (.lconst 1, 1) := by decide +kernel
theorem dX12_power_1 : decode cX12_power 1 = .ok (.lstore_n 3, 1) := by decide +kernel
theorem dX12_power_2 : decode cX12_power 2 = .ok (.iconst 0, 1) := by decide +kernel
theorem dX12_power_3 : decode cX12_power 3 = .ok (.istore 5, 2) := by decide +kernel
theorem dX12_power_5 : decode cX12_power 5 = .ok (.iload 5, 2) := by decide +kernel
theorem dX12_power_7 : decode cX12_power 7 = .ok (.iload_n 2, 1) := by decide +kernel
theorem dX12_power_8 : decode cX12_power 8 = .ok (.if_icmp .ge 13, 3) := by decide +kernel
theorem dX12_power_11 : decode cX12_power 11 = .ok (.lload_n 3, 1) := by decide +kernel
theorem dX12_power_12 : decode cX12_power 12 = .ok (.lload_n 0, 1) := by decide +kernel
theorem dX12_power_13 : decode cX12_power 13 = .ok (.lmul, 1) := by decide +kernel
theorem dX12_power_14 : decode cX12_power 14 = .ok (.lstore_n 3, 1) := by decide +kernel
theorem dX12_power_15 : decode cX12_power 15 = .ok (.iinc 5 1, 3) := by decide +kernel
theorem dX12_power_18 : decode cX12_power 18 = .ok (.goto (-13), 3) := by decide +kernel
theorem dX12_power_21 : decode cX12_power 21 = .ok (.lload_n 3, 1) := by decide +kernel
theorem dX12_power_22 : decode cX12_power 22 = .ok (.lreturn, 1) := by decide +kernel
theorem dX12_proved_0 : decode cX12_proved 0 = .ok (.aload_n 0, 1) := by decide +kernel
theorem dX12_proved_1 : decode cX12_proved 1 = .ok (.iconst 0, 1) := by decide +kernel
theorem dX12_proved_2 : decode cX12_proved 2 = .ok (.putfield 55, 3) := by decide +kernel
theorem dX12_proved_5 : decode cX12_proved 5 = .ok (.iload_n 1, 1) := by decide +kernel
theorem dX12_proved_6 : decode cX12_proved 6 = .ok (.iconst 1, 1) := by decide +kernel
theorem dX12_proved_7 : decode cX12_proved 7 = .ok (.bipush 8, 2) := by decide +kernel
theorem dX12_proved_9 : decode cX12_proved 9 = .ok (.invokestatic 65, 3) := by decide +kernel
theorem dX12_proved_12 : decode cX12_proved 12 = .ok (.ifCond .eq 14, 3) := by decide +kernel
theorem dX12_proved_15 : decode cX12_proved 15 = .ok (.iload_n 2, 1) := by decide +kernel
theorem dX12_proved_16 : decode cX12_proved 16 = .ok (.iconst 2, 1) := by decide +kernel
theorem dX12_proved_17 : decode cX12_proved 17 = .ok (.sipush 900, 3) := by decide +kernel
theorem dX12_proved_20 : decode cX12_proved 20 = .ok (.invokestatic 65, 3) := by decide +kernel
theorem dX12_proved_23 : decode cX12_proved 23 = .ok (.ifCond .ne 5, 3) := by decide +kernel
theorem dX12_proved_26 : decode cX12_proved 26 = .ok (.iconst (-1), 1) := by decide +kernel
theorem dX12_proved_27 : decode cX12_proved 27 = .ok (.ireturn, 1) := by decide +kernel
theorem dX12_proved_28 : decode cX12_proved 28 = .ok (.bipush 99, 2) := by decide +kernel
theorem dX12_proved_30 : decode cX12_proved 30 = .ok (.istore_n 3, 1) := by decide +kernel
theorem dX12_proved_31 : decode cX12_proved 31 = .ok (.ldc2_w 232, 3) := by decide +kernel
theorem dX12_proved_34 : decode cX12_proved 34 = .ok (.iload_n 3, 1) := by decide +kernel
theorem dX12_proved_35 : decode cX12_proved 35 = .ok (.i2l, 1) := by decide +kernel
theorem dX12_proved_36 : decode cX12_proved 36 = .ok (.lsub, 1) := by decide +kernel
theorem dX12_proved_37 : decode cX12_proved 37 = .ok (.iload_n 1, 1) := by decide +kernel
theorem dX12_proved_38 : decode cX12_proved 38 = .ok (.invokestatic 304, 3) := by decide +kernel
theorem dX12_proved_41 : decode cX12_proved 41 = .ok (.iload_n 2, 1) := by decide +kernel
theorem dX12_proved_42 : decode cX12_proved 42 = .ok (.i2l, 1) := by decide +kernel
theorem dX12_proved_43 : decode cX12_proved 43 = .ok (.lmul, 1) := by decide +kernel
theorem dX12_proved_44 : decode cX12_proved 44 = .ok (.ldc2_w 232, 3) := by decide +kernel
theorem dX12_proved_47 : decode cX12_proved 47 = .ok (.iload_n 1, 1) := by decide +kernel
theorem dX12_proved_48 : decode cX12_proved 48 = .ok (.invokestatic 304, 3) := by decide +kernel
theorem dX12_proved_51 : decode cX12_proved 51 = .ok (.lcmp, 1) := by decide +kernel
theorem dX12_proved_52 : decode cX12_proved 52 = .ok (.ifCond .ge 9, 3) := by decide +kernel
theorem dX12_proved_55 : decode cX12_proved 55 = .ok (.iinc 3 (-1), 3) := by decide +kernel
theorem dX12_proved_58 : decode cX12_proved 58 = .ok (.goto (-27), 3) := by decide +kernel
theorem dX12_proved_61 : decode cX12_proved 61 = .ok (.iload_n 3, 1) := by decide +kernel
theorem dX12_proved_62 : decode cX12_proved 62 = .ok (.ireturn, 1) := by decide +kernel
theorem dX12_needed_0 : decode cX12_needed 0 = .ok (.aload_n 0, 1) := by decide +kernel
theorem dX12_needed_1 : decode cX12_needed 1 = .ok (.iconst 0, 1) := by decide +kernel
theorem dX12_needed_2 : decode cX12_needed 2 = .ok (.putfield 55, 3) := by decide +kernel
theorem dX12_needed_5 : decode cX12_needed 5 = .ok (.iload_n 1, 1) := by decide +kernel
theorem dX12_needed_6 : decode cX12_needed 6 = .ok (.iconst 1, 1) := by decide +kernel
theorem dX12_needed_7 : decode cX12_needed 7 = .ok (.bipush 99, 2) := by decide +kernel
theorem dX12_needed_9 : decode cX12_needed 9 = .ok (.invokestatic 65, 3) := by decide +kernel
theorem dX12_needed_12 : decode cX12_needed 12 = .ok (.ifCond .eq 14, 3) := by decide +kernel
theorem dX12_needed_15 : decode cX12_needed 15 = .ok (.iload_n 2, 1) := by decide +kernel
theorem dX12_needed_16 : decode cX12_needed 16 = .ok (.iconst 2, 1) := by decide +kernel
theorem dX12_needed_17 : decode cX12_needed 17 = .ok (.ldc_w 308, 3) := by decide +kernel
theorem dX12_needed_20 : decode cX12_needed 20 = .ok (.invokestatic 65, 3) := by decide +kernel
theorem dX12_needed_23 : decode cX12_needed 23 = .ok (.ifCond .ne 5, 3) := by decide +kernel
theorem dX12_needed_26 : decode cX12_needed 26 = .ok (.iconst (-1), 1) := by decide +kernel
theorem dX12_needed_27 : decode cX12_needed 27 = .ok (.ireturn, 1) := by decide +kernel
theorem dX12_needed_28 : decode cX12_needed 28 = .ok (.ldc2_w 302, 3) := by decide +kernel
theorem dX12_needed_31 : decode cX12_needed 31 = .ok (.lstore_n 3, 1) := by decide +kernel
theorem dX12_needed_32 : decode cX12_needed 32 = .ok (.iconst 1, 1) := by decide +kernel
theorem dX12_needed_33 : decode cX12_needed 33 = .ok (.istore 5, 2) := by decide +kernel
theorem dX12_needed_35 : decode cX12_needed 35 = .ok (.iload 5, 2) := by decide +kernel
theorem dX12_needed_37 : decode cX12_needed 37 = .ok (.sipush 999, 3) := by decide +kernel
theorem dX12_needed_40 : decode cX12_needed 40 = .ok (.if_icmp .gt 35, 3) := by decide +kernel
theorem dX12_needed_43 : decode cX12_needed 43 = .ok (.lload_n 3, 1) := by decide +kernel
theorem dX12_needed_44 : decode cX12_needed 44 = .ok (.bipush 100, 2) := by decide +kernel
theorem dX12_needed_46 : decode cX12_needed 46 = .ok (.iload_n 1, 1) := by decide +kernel
theorem dX12_needed_47 : decode cX12_needed 47 = .ok (.isub, 1) := by decide +kernel
theorem dX12_needed_48 : decode cX12_needed 48 = .ok (.i2l, 1) := by decide +kernel
theorem dX12_needed_49 : decode cX12_needed 49 = .ok (.lmul, 1) := by decide +kernel
theorem dX12_needed_50 : decode cX12_needed 50 = .ok (.ldc2_w 232, 3) := by decide +kernel
theorem dX12_needed_53 : decode cX12_needed 53 = .ok (.ldiv, 1) := by decide +kernel
theorem dX12_needed_54 : decode cX12_needed 54 = .ok (.lstore_n 3, 1) := by decide +kernel
theorem dX12_needed_55 : decode cX12_needed 55 = .ok (.lload_n 3, 1) := by decide +kernel
theorem dX12_needed_56 : decode cX12_needed 56 = .ok (.ldc2_w 302, 3) := by decide +kernel
theorem dX12_needed_59 : decode cX12_needed 59 = .ok (.iload_n 2, 1) := by decide +kernel
theorem dX12_needed_60 : decode cX12_needed 60 = .ok (.i2l, 1) := by decide +kernel
theorem dX12_needed_61 : decode cX12_needed 61 = .ok (.ldiv, 1) := by decide +kernel
theorem dX12_needed_62 : decode cX12_needed 62 = .ok (.lcmp, 1) := by decide +kernel
theorem dX12_needed_63 : decode cX12_needed 63 = .ok (.ifCond .ge 6, 3) := by decide +kernel
theorem dX12_needed_66 : decode cX12_needed 66 = .ok (.iload 5, 2) := by decide +kernel
theorem dX12_needed_68 : decode cX12_needed 68 = .ok (.ireturn, 1) := by decide +kernel
theorem dX12_needed_69 : decode cX12_needed 69 = .ok (.iinc 5 1, 3) := by decide +kernel
theorem dX12_needed_72 : decode cX12_needed 72 = .ok (.goto (-37), 3) := by decide +kernel
theorem dX12_needed_75 : decode cX12_needed 75 = .ok (.iconst (-1), 1) := by decide +kernel
theorem dX12_needed_76 : decode cX12_needed 76 = .ok (.ireturn, 1) := by decide +kernel
theorem dX12_count_0 : decode cX12_count 0 = .ok (.aload_n 0, 1) := by decide +kernel
theorem dX12_count_1 : decode cX12_count 1 = .ok (.iconst 0, 1) := by decide +kernel
theorem dX12_count_2 : decode cX12_count 2 = .ok (.putfield 55, 3) := by decide +kernel
theorem dX12_count_5 : decode cX12_count 5 = .ok (.iload_n 1, 1) := by decide +kernel
theorem dX12_count_6 : decode cX12_count 6 = .ok (.tableswitch 41 0 2 #[26, 31, 36], 26) := by decide +kernel
theorem dX12_count_32 : decode cX12_count 32 = .ok (.aload_n 0, 1) := by decide +kernel
theorem dX12_count_33 : decode cX12_count 33 = .ok (.getfield 69, 3) := by decide +kernel
theorem dX12_count_36 : decode cX12_count 36 = .ok (.ireturn, 1) := by decide +kernel
theorem dX12_count_37 : decode cX12_count 37 = .ok (.aload_n 0, 1) := by decide +kernel
theorem dX12_count_38 : decode cX12_count 38 = .ok (.getfield 205, 3) := by decide +kernel
theorem dX12_count_41 : decode cX12_count 41 = .ok (.ireturn, 1) := by decide +kernel
theorem dX12_count_42 : decode cX12_count 42 = .ok (.aload_n 0, 1) := by decide +kernel
theorem dX12_count_43 : decode cX12_count 43 = .ok (.getfield 58, 3) := by decide +kernel
theorem dX12_count_46 : decode cX12_count 46 = .ok (.ireturn, 1) := by decide +kernel
theorem dX12_count_47 : decode cX12_count 47 = .ok (.iconst (-1), 1) := by decide +kernel
theorem dX12_count_48 : decode cX12_count 48 = .ok (.ireturn, 1) := by decide +kernel
theorem dJ6_bitCount_0f7a4_0 : decode cJ6_bitCount_0f7a4 0 = .ok (.iload_n 0, 1) := by decide +kernel
theorem dJ6_bitCount_0f7a4_1 : decode cJ6_bitCount_0f7a4 1 = .ok (.iload_n 0, 1) := by decide +kernel
theorem dJ6_bitCount_0f7a4_2 : decode cJ6_bitCount_0f7a4 2 = .ok (.iconst 1, 1) := by decide +kernel
theorem dJ6_bitCount_0f7a4_3 : decode cJ6_bitCount_0f7a4 3 = .ok (.iushr, 1) := by decide +kernel
theorem dJ6_bitCount_0f7a4_4 : decode cJ6_bitCount_0f7a4 4 = .ok (.ldc_w 265, 3) := by decide +kernel
theorem dJ6_bitCount_0f7a4_7 : decode cJ6_bitCount_0f7a4 7 = .ok (.iand, 1) := by decide +kernel
theorem dJ6_bitCount_0f7a4_8 : decode cJ6_bitCount_0f7a4 8 = .ok (.isub, 1) := by decide +kernel
theorem dJ6_bitCount_0f7a4_9 : decode cJ6_bitCount_0f7a4 9 = .ok (.istore_n 0, 1) := by decide +kernel
theorem dJ6_bitCount_0f7a4_10 : decode cJ6_bitCount_0f7a4 10 = .ok (.iload_n 0, 1) := by decide +kernel
theorem dJ6_bitCount_0f7a4_11 : decode cJ6_bitCount_0f7a4 11 = .ok (.ldc_w 266, 3) := by decide +kernel
theorem dJ6_bitCount_0f7a4_14 : decode cJ6_bitCount_0f7a4 14 = .ok (.iand, 1) := by decide +kernel
theorem dJ6_bitCount_0f7a4_15 : decode cJ6_bitCount_0f7a4 15 = .ok (.iload_n 0, 1) := by decide +kernel
theorem dJ6_bitCount_0f7a4_16 : decode cJ6_bitCount_0f7a4 16 = .ok (.iconst 2, 1) := by decide +kernel
theorem dJ6_bitCount_0f7a4_17 : decode cJ6_bitCount_0f7a4 17 = .ok (.iushr, 1) := by decide +kernel
theorem dJ6_bitCount_0f7a4_18 : decode cJ6_bitCount_0f7a4 18 = .ok (.ldc_w 266, 3) := by decide +kernel
theorem dJ6_bitCount_0f7a4_21 : decode cJ6_bitCount_0f7a4 21 = .ok (.iand, 1) := by decide +kernel
theorem dJ6_bitCount_0f7a4_22 : decode cJ6_bitCount_0f7a4 22 = .ok (.iadd, 1) := by decide +kernel
theorem dJ6_bitCount_0f7a4_23 : decode cJ6_bitCount_0f7a4 23 = .ok (.istore_n 0, 1) := by decide +kernel
theorem dJ6_bitCount_0f7a4_24 : decode cJ6_bitCount_0f7a4 24 = .ok (.iload_n 0, 1) := by decide +kernel
theorem dJ6_bitCount_0f7a4_25 : decode cJ6_bitCount_0f7a4 25 = .ok (.iload_n 0, 1) := by decide +kernel
theorem dJ6_bitCount_0f7a4_26 : decode cJ6_bitCount_0f7a4 26 = .ok (.iconst 4, 1) := by decide +kernel
theorem dJ6_bitCount_0f7a4_27 : decode cJ6_bitCount_0f7a4 27 = .ok (.iushr, 1) := by decide +kernel
theorem dJ6_bitCount_0f7a4_28 : decode cJ6_bitCount_0f7a4 28 = .ok (.iadd, 1) := by decide +kernel
theorem dJ6_bitCount_0f7a4_29 : decode cJ6_bitCount_0f7a4 29 = .ok (.ldc_w 267, 3) := by decide +kernel
theorem dJ6_bitCount_0f7a4_32 : decode cJ6_bitCount_0f7a4 32 = .ok (.iand, 1) := by decide +kernel
theorem dJ6_bitCount_0f7a4_33 : decode cJ6_bitCount_0f7a4 33 = .ok (.istore_n 0, 1) := by decide +kernel
theorem dJ6_bitCount_0f7a4_34 : decode cJ6_bitCount_0f7a4 34 = .ok (.iload_n 0, 1) := by decide +kernel
theorem dJ6_bitCount_0f7a4_35 : decode cJ6_bitCount_0f7a4 35 = .ok (.iload_n 0, 1) := by decide +kernel
theorem dJ6_bitCount_0f7a4_36 : decode cJ6_bitCount_0f7a4 36 = .ok (.bipush 8, 2) := by decide +kernel
theorem dJ6_bitCount_0f7a4_38 : decode cJ6_bitCount_0f7a4 38 = .ok (.iushr, 1) := by decide +kernel
theorem dJ6_bitCount_0f7a4_39 : decode cJ6_bitCount_0f7a4 39 = .ok (.iadd, 1) := by decide +kernel
theorem dJ6_bitCount_0f7a4_40 : decode cJ6_bitCount_0f7a4 40 = .ok (.istore_n 0, 1) := by decide +kernel
theorem dJ6_bitCount_0f7a4_41 : decode cJ6_bitCount_0f7a4 41 = .ok (.iload_n 0, 1) := by decide +kernel
theorem dJ6_bitCount_0f7a4_42 : decode cJ6_bitCount_0f7a4 42 = .ok (.iload_n 0, 1) := by decide +kernel
theorem dJ6_bitCount_0f7a4_43 : decode cJ6_bitCount_0f7a4 43 = .ok (.bipush 16, 2) := by decide +kernel
theorem dJ6_bitCount_0f7a4_45 : decode cJ6_bitCount_0f7a4 45 = .ok (.iushr, 1) := by decide +kernel
theorem dJ6_bitCount_0f7a4_46 : decode cJ6_bitCount_0f7a4 46 = .ok (.iadd, 1) := by decide +kernel
theorem dJ6_bitCount_0f7a4_47 : decode cJ6_bitCount_0f7a4 47 = .ok (.istore_n 0, 1) := by decide +kernel
theorem dJ6_bitCount_0f7a4_48 : decode cJ6_bitCount_0f7a4 48 = .ok (.iload_n 0, 1) := by decide +kernel
theorem dJ6_bitCount_0f7a4_49 : decode cJ6_bitCount_0f7a4 49 = .ok (.bipush 63, 2) := by decide +kernel
theorem dJ6_bitCount_0f7a4_51 : decode cJ6_bitCount_0f7a4 51 = .ok (.iand, 1) := by decide +kernel
theorem dJ6_bitCount_0f7a4_52 : decode cJ6_bitCount_0f7a4 52 = .ok (.ireturn, 1) := by decide +kernel
theorem dJ9_max_7cf53_0 : decode cJ9_max_7cf53 0 = .ok (.iload_n 0, 1) := by decide +kernel
theorem dJ9_max_7cf53_1 : decode cJ9_max_7cf53 1 = .ok (.iload_n 1, 1) := by decide +kernel
theorem dJ9_max_7cf53_2 : decode cJ9_max_7cf53 2 = .ok (.if_icmp .lt 7, 3) := by decide +kernel
theorem dJ9_max_7cf53_5 : decode cJ9_max_7cf53 5 = .ok (.iload_n 0, 1) := by decide +kernel
theorem dJ9_max_7cf53_6 : decode cJ9_max_7cf53 6 = .ok (.goto 4, 3) := by decide +kernel
theorem dJ9_max_7cf53_9 : decode cJ9_max_7cf53 9 = .ok (.iload_n 1, 1) := by decide +kernel
theorem dJ9_max_7cf53_10 : decode cJ9_max_7cf53 10 = .ok (.ireturn, 1) := by decide +kernel
theorem dJ9_min_7cf53_0 : decode cJ9_min_7cf53 0 = .ok (.iload_n 0, 1) := by decide +kernel
theorem dJ9_min_7cf53_1 : decode cJ9_min_7cf53 1 = .ok (.iload_n 1, 1) := by decide +kernel
theorem dJ9_min_7cf53_2 : decode cJ9_min_7cf53 2 = .ok (.if_icmp .gt 7, 3) := by decide +kernel
theorem dJ9_min_7cf53_5 : decode cJ9_min_7cf53 5 = .ok (.iload_n 0, 1) := by decide +kernel
theorem dJ9_min_7cf53_6 : decode cJ9_min_7cf53 6 = .ok (.goto 4, 3) := by decide +kernel
theorem dJ9_min_7cf53_9 : decode cJ9_min_7cf53 9 = .ok (.iload_n 1, 1) := by decide +kernel
theorem dJ9_min_7cf53_10 : decode cJ9_min_7cf53 10 = .ok (.ireturn, 1) := by decide +kernel
theorem dJ9_min_f86c9_0 : decode cJ9_min_f86c9 0 = .ok (.lload_n 0, 1) := by decide +kernel
theorem dJ9_min_f86c9_1 : decode cJ9_min_f86c9 1 = .ok (.lload_n 2, 1) := by decide +kernel
theorem dJ9_min_f86c9_2 : decode cJ9_min_f86c9 2 = .ok (.lcmp, 1) := by decide +kernel
theorem dJ9_min_f86c9_3 : decode cJ9_min_f86c9 3 = .ok (.ifCond .gt 7, 3) := by decide +kernel
theorem dJ9_min_f86c9_6 : decode cJ9_min_f86c9 6 = .ok (.lload_n 0, 1) := by decide +kernel
theorem dJ9_min_f86c9_7 : decode cJ9_min_f86c9 7 = .ok (.goto 4, 3) := by decide +kernel
theorem dJ9_min_f86c9_10 : decode cJ9_min_f86c9 10 = .ok (.lload_n 2, 1) := by decide +kernel
theorem dJ9_min_f86c9_11 : decode cJ9_min_f86c9 11 = .ok (.lreturn, 1) := by decide +kernel
theorem dJ0_length_8abf5_0 : decode cJ0_length_8abf5 0 = .ok (.aload_n 0, 1) := by decide +kernel
theorem dJ0_length_8abf5_1 : decode cJ0_length_8abf5 1 = .ok (.getfield 9, 3) := by decide +kernel
theorem dJ0_length_8abf5_4 : decode cJ0_length_8abf5 4 = .ok (.arraylength, 1) := by decide +kernel
theorem dJ0_length_8abf5_5 : decode cJ0_length_8abf5 5 = .ok (.aload_n 0, 1) := by decide +kernel
theorem dJ0_length_8abf5_6 : decode cJ0_length_8abf5 6 = .ok (.invokevirtual 335, 3) := by decide +kernel
theorem dJ0_length_8abf5_9 : decode cJ0_length_8abf5 9 = .ok (.ishr, 1) := by decide +kernel
theorem dJ0_length_8abf5_10 : decode cJ0_length_8abf5 10 = .ok (.ireturn, 1) := by decide +kernel
theorem dJ0_charAt_5068e_0 : decode cJ0_charAt_5068e 0 = .ok (.aload_n 0, 1) := by decide +kernel
theorem dJ0_charAt_5068e_1 : decode cJ0_charAt_5068e 1 = .ok (.invokevirtual 492, 3) := by decide +kernel
theorem dJ0_charAt_5068e_4 : decode cJ0_charAt_5068e 4 = .ok (.ifCond .eq 12, 3) := by decide +kernel
theorem dJ0_charAt_5068e_7 : decode cJ0_charAt_5068e 7 = .ok (.aload_n 0, 1) := by decide +kernel
theorem dJ0_charAt_5068e_8 : decode cJ0_charAt_5068e 8 = .ok (.getfield 9, 3) := by decide +kernel
theorem dJ0_charAt_5068e_11 : decode cJ0_charAt_5068e 11 = .ok (.iload_n 1, 1) := by decide +kernel
theorem dJ0_charAt_5068e_12 : decode cJ0_charAt_5068e 12 = .ok (.invokestatic 495, 3) := by decide +kernel
theorem dJ0_charAt_5068e_15 : decode cJ0_charAt_5068e 15 = .ok (.ireturn, 1) := by decide +kernel
theorem dJ0_charAt_5068e_16 : decode cJ0_charAt_5068e 16 = .ok (.aload_n 0, 1) := by decide +kernel
theorem dJ0_charAt_5068e_17 : decode cJ0_charAt_5068e 17 = .ok (.getfield 9, 3) := by decide +kernel
theorem dJ0_charAt_5068e_20 : decode cJ0_charAt_5068e 20 = .ok (.iload_n 1, 1) := by decide +kernel
theorem dJ0_charAt_5068e_21 : decode cJ0_charAt_5068e 21 = .ok (.invokestatic 498, 3) := by decide +kernel
theorem dJ0_charAt_5068e_24 : decode cJ0_charAt_5068e 24 = .ok (.ireturn, 1) := by decide +kernel
theorem dJ0_coder_7d493_0 : decode cJ0_coder_7d493 0 = .ok (.getstatic 38, 3) := by decide +kernel
theorem dJ0_coder_7d493_3 : decode cJ0_coder_7d493 3 = .ok (.ifCond .eq 10, 3) := by decide +kernel
theorem dJ0_coder_7d493_6 : decode cJ0_coder_7d493 6 = .ok (.aload_n 0, 1) := by decide +kernel
theorem dJ0_coder_7d493_7 : decode cJ0_coder_7d493 7 = .ok (.getfield 15, 3) := by decide +kernel
theorem dJ0_coder_7d493_10 : decode cJ0_coder_7d493 10 = .ok (.goto 4, 3) := by decide +kernel
theorem dJ0_coder_7d493_13 : decode cJ0_coder_7d493 13 = .ok (.iconst 1, 1) := by decide +kernel
theorem dJ0_coder_7d493_14 : decode cJ0_coder_7d493 14 = .ok (.ireturn, 1) := by decide +kernel
theorem dJ0_isLatin1_aae02_0 : decode cJ0_isLatin1_aae02 0 = .ok (.getstatic 38, 3) := by decide +kernel
theorem dJ0_isLatin1_aae02_3 : decode cJ0_isLatin1_aae02 3 = .ok (.ifCond .eq 14, 3) := by decide +kernel
theorem dJ0_isLatin1_aae02_6 : decode cJ0_isLatin1_aae02 6 = .ok (.aload_n 0, 1) := by decide +kernel
theorem dJ0_isLatin1_aae02_7 : decode cJ0_isLatin1_aae02 7 = .ok (.getfield 15, 3) := by decide +kernel
theorem dJ0_isLatin1_aae02_10 : decode cJ0_isLatin1_aae02 10 = .ok (.ifCond .ne 7, 3) := by decide +kernel
theorem dJ0_isLatin1_aae02_13 : decode cJ0_isLatin1_aae02 13 = .ok (.iconst 1, 1) := by decide +kernel
theorem dJ0_isLatin1_aae02_14 : decode cJ0_isLatin1_aae02 14 = .ok (.goto 4, 3) := by decide +kernel
theorem dJ0_isLatin1_aae02_17 : decode cJ0_isLatin1_aae02 17 = .ok (.iconst 0, 1) := by decide +kernel
theorem dJ0_isLatin1_aae02_18 : decode cJ0_isLatin1_aae02 18 = .ok (.ireturn, 1) := by decide +kernel
theorem dJ0_checkIndex_df160_0 : decode cJ0_checkIndex_df160 0 = .ok (.iload_n 0, 1) := by decide +kernel
theorem dJ0_checkIndex_df160_1 : decode cJ0_checkIndex_df160 1 = .ok (.iload_n 1, 1) := by decide +kernel
theorem dJ0_checkIndex_df160_2 : decode cJ0_checkIndex_df160 2 = .ok (.getstatic 1053, 3) := by decide +kernel
theorem dJ0_checkIndex_df160_5 : decode cJ0_checkIndex_df160 5 = .ok (.invokestatic 1059, 3) := by decide +kernel
theorem dJ0_checkIndex_df160_8 : decode cJ0_checkIndex_df160 8 = .ok (.pop, 1) := by decide +kernel
theorem dJ0_checkIndex_df160_9 : decode cJ0_checkIndex_df160 9 = .ok (.return_, 1) := by decide +kernel
theorem dJ1_charAt_3b067_0 : decode cJ1_charAt_3b067 0 = .ok (.iload_n 1, 1) := by decide +kernel
theorem dJ1_charAt_3b067_1 : decode cJ1_charAt_3b067 1 = .ok (.aload_n 0, 1) := by decide +kernel
theorem dJ1_charAt_3b067_2 : decode cJ1_charAt_3b067 2 = .ok (.arraylength, 1) := by decide +kernel
theorem dJ1_charAt_3b067_3 : decode cJ1_charAt_3b067 3 = .ok (.invokestatic 9, 3) := by decide +kernel
theorem dJ1_charAt_3b067_6 : decode cJ1_charAt_3b067 6 = .ok (.aload_n 0, 1) := by decide +kernel
theorem dJ1_charAt_3b067_7 : decode cJ1_charAt_3b067 7 = .ok (.iload_n 1, 1) := by decide +kernel
theorem dJ1_charAt_3b067_8 : decode cJ1_charAt_3b067 8 = .ok (.baload, 1) := by decide +kernel
theorem dJ1_charAt_3b067_9 : decode cJ1_charAt_3b067 9 = .ok (.sipush 255, 3) := by decide +kernel
theorem dJ1_charAt_3b067_12 : decode cJ1_charAt_3b067 12 = .ok (.iand, 1) := by decide +kernel
theorem dJ1_charAt_3b067_13 : decode cJ1_charAt_3b067 13 = .ok (.i2c, 1) := by decide +kernel
theorem dJ1_charAt_3b067_14 : decode cJ1_charAt_3b067 14 = .ok (.ireturn, 1) := by decide +kernel
theorem dJ2_getChar_3b067_0 : decode cJ2_getChar_3b067 0 = .ok (.getstatic 44, 3) := by decide +kernel
theorem dJ2_getChar_3b067_3 : decode cJ2_getChar_3b067 3 = .ok (.ifCond .ne 25, 3) := by decide +kernel
theorem dJ2_getChar_3b067_6 : decode cJ2_getChar_3b067 6 = .ok (.iload_n 1, 1) := by decide +kernel
theorem dJ2_getChar_3b067_7 : decode cJ2_getChar_3b067 7 = .ok (.ifCond .lt 11, 3) := by decide +kernel
theorem dJ2_getChar_3b067_10 : decode cJ2_getChar_3b067 10 = .ok (.iload_n 1, 1) := by decide +kernel
theorem dJ2_getChar_3b067_11 : decode cJ2_getChar_3b067 11 = .ok (.aload_n 0, 1) := by decide +kernel
theorem dJ2_getChar_3b067_12 : decode cJ2_getChar_3b067 12 = .ok (.invokestatic 48, 3) := by decide +kernel
theorem dJ2_getChar_3b067_15 : decode cJ2_getChar_3b067 15 = .ok (.if_icmp .lt 13, 3) := by decide +kernel
theorem dJ2_getChar_3b067_18 : decode cJ2_getChar_3b067 18 = .ok (.new 52, 3) := by decide +kernel
theorem dJ2_getChar_3b067_21 : decode cJ2_getChar_3b067 21 = .ok (.dup, 1) := by decide +kernel
theorem dJ2_getChar_3b067_22 : decode cJ2_getChar_3b067 22 = .ok (.ldc 54, 2) := by decide +kernel
theorem dJ2_getChar_3b067_24 : decode cJ2_getChar_3b067 24 = .ok (.invokespecial 56, 3) := by decide +kernel
theorem dJ2_getChar_3b067_27 : decode cJ2_getChar_3b067 27 = .ok (.athrow, 1) := by decide +kernel
theorem dJ2_getChar_3b067_28 : decode cJ2_getChar_3b067 28 = .ok (.iload_n 1, 1) := by decide +kernel
theorem dJ2_getChar_3b067_29 : decode cJ2_getChar_3b067 29 = .ok (.iconst 1, 1) := by decide +kernel
theorem dJ2_getChar_3b067_30 : decode cJ2_getChar_3b067 30 = .ok (.ishl, 1) := by decide +kernel
theorem dJ2_getChar_3b067_31 : decode cJ2_getChar_3b067 31 = .ok (.istore_n 1, 1) := by decide +kernel
theorem dJ2_getChar_3b067_32 : decode cJ2_getChar_3b067 32 = .ok (.aload_n 0, 1) := by decide +kernel
theorem dJ2_getChar_3b067_33 : decode cJ2_getChar_3b067 33 = .ok (.iload_n 1, 1) := by decide +kernel
theorem dJ2_getChar_3b067_34 : decode cJ2_getChar_3b067 34 = .ok (.iinc 1 1, 3) := by decide +kernel
theorem dJ2_getChar_3b067_37 : decode cJ2_getChar_3b067 37 = .ok (.baload, 1) := by decide +kernel
theorem dJ2_getChar_3b067_38 : decode cJ2_getChar_3b067 38 = .ok (.sipush 255, 3) := by decide +kernel
theorem dJ2_getChar_3b067_41 : decode cJ2_getChar_3b067 41 = .ok (.iand, 1) := by decide +kernel
theorem dJ2_getChar_3b067_42 : decode cJ2_getChar_3b067 42 = .ok (.getstatic 59, 3) := by decide +kernel
theorem dJ2_getChar_3b067_45 : decode cJ2_getChar_3b067 45 = .ok (.ishl, 1) := by decide +kernel
theorem dJ2_getChar_3b067_46 : decode cJ2_getChar_3b067 46 = .ok (.aload_n 0, 1) := by decide +kernel
theorem dJ2_getChar_3b067_47 : decode cJ2_getChar_3b067 47 = .ok (.iload_n 1, 1) := by decide +kernel
theorem dJ2_getChar_3b067_48 : decode cJ2_getChar_3b067 48 = .ok (.baload, 1) := by decide +kernel
theorem dJ2_getChar_3b067_49 : decode cJ2_getChar_3b067 49 = .ok (.sipush 255, 3) := by decide +kernel
theorem dJ2_getChar_3b067_52 : decode cJ2_getChar_3b067 52 = .ok (.iand, 1) := by decide +kernel
theorem dJ2_getChar_3b067_53 : decode cJ2_getChar_3b067 53 = .ok (.getstatic 63, 3) := by decide +kernel
theorem dJ2_getChar_3b067_56 : decode cJ2_getChar_3b067 56 = .ok (.ishl, 1) := by decide +kernel
theorem dJ2_getChar_3b067_57 : decode cJ2_getChar_3b067 57 = .ok (.ior, 1) := by decide +kernel
theorem dJ2_getChar_3b067_58 : decode cJ2_getChar_3b067 58 = .ok (.i2c, 1) := by decide +kernel
theorem dJ2_getChar_3b067_59 : decode cJ2_getChar_3b067 59 = .ok (.ireturn, 1) := by decide +kernel
theorem dJ2_length_9d52b_0 : decode cJ2_length_9d52b 0 = .ok (.aload_n 0, 1) := by decide +kernel
theorem dJ2_length_9d52b_1 : decode cJ2_length_9d52b 1 = .ok (.arraylength, 1) := by decide +kernel
theorem dJ2_length_9d52b_2 : decode cJ2_length_9d52b 2 = .ok (.iconst 1, 1) := by decide +kernel
theorem dJ2_length_9d52b_3 : decode cJ2_length_9d52b 3 = .ok (.ishr, 1) := by decide +kernel
theorem dJ2_length_9d52b_4 : decode cJ2_length_9d52b 4 = .ok (.ireturn, 1) := by decide +kernel
theorem dJ2_charAt_3b067_0 : decode cJ2_charAt_3b067 0 = .ok (.iload_n 1, 1) := by decide +kernel
theorem dJ2_charAt_3b067_1 : decode cJ2_charAt_3b067 1 = .ok (.aload_n 0, 1) := by decide +kernel
theorem dJ2_charAt_3b067_2 : decode cJ2_charAt_3b067 2 = .ok (.invokestatic 67, 3) := by decide +kernel
theorem dJ2_charAt_3b067_5 : decode cJ2_charAt_3b067 5 = .ok (.aload_n 0, 1) := by decide +kernel
theorem dJ2_charAt_3b067_6 : decode cJ2_charAt_3b067 6 = .ok (.iload_n 1, 1) := by decide +kernel
theorem dJ2_charAt_3b067_7 : decode cJ2_charAt_3b067 7 = .ok (.invokestatic 71, 3) := by decide +kernel
theorem dJ2_charAt_3b067_10 : decode cJ2_charAt_3b067 10 = .ok (.ireturn, 1) := by decide +kernel
theorem dJ2_checkIndex_2214a_0 : decode cJ2_checkIndex_2214a 0 = .ok (.iload_n 0, 1) := by decide +kernel
theorem dJ2_checkIndex_2214a_1 : decode cJ2_checkIndex_2214a 1 = .ok (.aload_n 1, 1) := by decide +kernel
theorem dJ2_checkIndex_2214a_2 : decode cJ2_checkIndex_2214a 2 = .ok (.invokestatic 48, 3) := by decide +kernel
theorem dJ2_checkIndex_2214a_5 : decode cJ2_checkIndex_2214a 5 = .ok (.invokestatic 414, 3) := by decide +kernel
theorem dJ2_checkIndex_2214a_8 : decode cJ2_checkIndex_2214a 8 = .ok (.return_, 1) := by decide +kernel
theorem dJ3_checkIndex_8e157_0 : decode cJ3_checkIndex_8e157 0 = .ok (.iload_n 0, 1) := by decide +kernel
theorem dJ3_checkIndex_8e157_1 : decode cJ3_checkIndex_8e157 1 = .ok (.ifCond .lt 8, 3) := by decide +kernel
theorem dJ3_checkIndex_8e157_4 : decode cJ3_checkIndex_8e157 4 = .ok (.iload_n 0, 1) := by decide +kernel
theorem dJ3_checkIndex_8e157_5 : decode cJ3_checkIndex_8e157 5 = .ok (.iload_n 1, 1) := by decide +kernel
theorem dJ3_checkIndex_8e157_6 : decode cJ3_checkIndex_8e157 6 = .ok (.if_icmp .lt 10, 3) := by decide +kernel
theorem dJ3_checkIndex_8e157_9 : decode cJ3_checkIndex_8e157 9 = .ok (.aload_n 2, 1) := by decide +kernel
theorem dJ3_checkIndex_8e157_10 : decode cJ3_checkIndex_8e157 10 = .ok (.iload_n 0, 1) := by decide +kernel
theorem dJ3_checkIndex_8e157_11 : decode cJ3_checkIndex_8e157 11 = .ok (.iload_n 1, 1) := by decide +kernel
theorem dJ3_checkIndex_8e157_12 : decode cJ3_checkIndex_8e157 12 = .ok (.invokestatic 95, 3) := by decide +kernel
theorem dJ3_checkIndex_8e157_15 : decode cJ3_checkIndex_8e157 15 = .ok (.athrow, 1) := by decide +kernel
theorem dJ3_checkIndex_8e157_16 : decode cJ3_checkIndex_8e157 16 = .ok (.iload_n 0, 1) := by decide +kernel
theorem dJ3_checkIndex_8e157_17 : decode cJ3_checkIndex_8e157 17 = .ok (.ireturn, 1) := by decide +kernel
theorem dL_journey_0 : decode cL_journey 0 = .ok (.aload_n 3, 1) := by decide +kernel
theorem dL_journey_1 : decode cL_journey 1 = .ok (.iconst 0, 1) := by decide +kernel
theorem dL_journey_2 : decode cL_journey 2 = .ok (.aload_n 0, 1) := by decide +kernel
theorem dL_journey_3 : decode cL_journey 3 = .ok (.iload_n 1, 1) := by decide +kernel
theorem dL_journey_4 : decode cL_journey 4 = .ok (.iload_n 2, 1) := by decide +kernel
theorem dL_journey_5 : decode cL_journey 5 = .ok (.invokevirtual 7, 3) := by decide +kernel
theorem dL_journey_8 : decode cL_journey 8 = .ok (.lastore, 1) := by decide +kernel
theorem dL_journey_9 : decode cL_journey 9 = .ok (.goto 7, 3) := by decide +kernel
theorem dL_journey_12 : decode cL_journey 12 = .ok (.astore 4, 2) := by decide +kernel
theorem dL_journey_14 : decode cL_journey 14 = .ok (.iconst 1, 1) := by decide +kernel
theorem dL_journey_15 : decode cL_journey 15 = .ok (.ireturn, 1) := by decide +kernel
theorem dL_journey_16 : decode cL_journey 16 = .ok (.iconst 0, 1) := by decide +kernel
theorem dL_journey_17 : decode cL_journey 17 = .ok (.ireturn, 1) := by decide +kernel
theorem dL_law_0 : decode cL_law 0 = .ok (.new 8, 3) := by decide +kernel
theorem dL_law_3 : decode cL_law 3 = .ok (.dup, 1) := by decide +kernel
theorem dL_law_4 : decode cL_law 4 = .ok (.invokespecial 15, 3) := by decide +kernel
theorem dL_law_7 : decode cL_law 7 = .ok (.astore_n 1, 1) := by decide +kernel
theorem dL_law_8 : decode cL_law 8 = .ok (.new 16, 3) := by decide +kernel
theorem dL_law_11 : decode cL_law 11 = .ok (.dup, 1) := by decide +kernel
theorem dL_law_12 : decode cL_law 12 = .ok (.invokespecial 18, 3) := by decide +kernel
theorem dL_law_15 : decode cL_law 15 = .ok (.astore_n 2, 1) := by decide +kernel
theorem dL_law_16 : decode cL_law 16 = .ok (.iconst 1, 1) := by decide +kernel
theorem dL_law_17 : decode cL_law 17 = .ok (.newarray .long, 2) := by decide +kernel
theorem dL_law_19 : decode cL_law 19 = .ok (.astore_n 3, 1) := by decide +kernel
theorem dL_law_20 : decode cL_law 20 = .ok (.iconst 0, 1) := by decide +kernel
theorem dL_law_21 : decode cL_law 21 = .ok (.istore 4, 2) := by decide +kernel
theorem dL_law_23 : decode cL_law 23 = .ok (.iload 4, 2) := by decide +kernel
theorem dL_law_25 : decode cL_law 25 = .ok (.aload_n 0, 1) := by decide +kernel
theorem dL_law_26 : decode cL_law 26 = .ok (.arraylength, 1) := by decide +kernel
theorem dL_law_27 : decode cL_law 27 = .ok (.bipush 7, 2) := by decide +kernel
theorem dL_law_29 : decode cL_law 29 = .ok (.isub, 1) := by decide +kernel
theorem dL_law_30 : decode cL_law 30 = .ok (.if_icmp .gt 1216, 3) := by decide +kernel
theorem dL_law_33 : decode cL_law 33 = .ok (.aload_n 0, 1) := by decide +kernel
theorem dL_law_34 : decode cL_law 34 = .ok (.iload 4, 2) := by decide +kernel
theorem dL_law_36 : decode cL_law 36 = .ok (.iaload, 1) := by decide +kernel
theorem dL_law_37 : decode cL_law 37 = .ok (.bipush 31, 2) := by decide +kernel
theorem dL_law_39 : decode cL_law 39 = .ok (.iand, 1) := by decide +kernel
theorem dL_law_40 : decode cL_law 40 = .ok (.tableswitch 1200 0 23 #[112, 185, 210, 235, 248, 261, 298, 359, 432, 505, 566, 603, 616, 677, 726, 813, 886, 911, 960, 973, 1034, 1101, 1138, 1175], 112) := by decide +kernel
theorem dL_law_152 : decode cL_law 152 = .ok (.aload_n 1, 1) := by decide +kernel
theorem dL_law_153 : decode cL_law 153 = .ok (.aload_n 0, 1) := by decide +kernel
theorem dL_law_154 : decode cL_law 154 = .ok (.iload 4, 2) := by decide +kernel
theorem dL_law_156 : decode cL_law 156 = .ok (.iconst 1, 1) := by decide +kernel
theorem dL_law_157 : decode cL_law 157 = .ok (.iadd, 1) := by decide +kernel
theorem dL_law_158 : decode cL_law 158 = .ok (.iaload, 1) := by decide +kernel
theorem dL_law_159 : decode cL_law 159 = .ok (.aload_n 0, 1) := by decide +kernel
theorem dL_law_160 : decode cL_law 160 = .ok (.iload 4, 2) := by decide +kernel
theorem dL_law_162 : decode cL_law 162 = .ok (.iconst 2, 1) := by decide +kernel
theorem dL_law_163 : decode cL_law 163 = .ok (.iadd, 1) := by decide +kernel
theorem dL_law_164 : decode cL_law 164 = .ok (.iaload, 1) := by decide +kernel
theorem dL_law_165 : decode cL_law 165 = .ok (.aload_n 0, 1) := by decide +kernel
theorem dL_law_166 : decode cL_law 166 = .ok (.iload 4, 2) := by decide +kernel
theorem dL_law_168 : decode cL_law 168 = .ok (.iconst 3, 1) := by decide +kernel
theorem dL_law_169 : decode cL_law 169 = .ok (.iadd, 1) := by decide +kernel
theorem dL_law_170 : decode cL_law 170 = .ok (.iaload, 1) := by decide +kernel
theorem dL_law_171 : decode cL_law 171 = .ok (.aload_n 0, 1) := by decide +kernel
theorem dL_law_172 : decode cL_law 172 = .ok (.iload 4, 2) := by decide +kernel
theorem dL_law_174 : decode cL_law 174 = .ok (.iconst 4, 1) := by decide +kernel
theorem dL_law_175 : decode cL_law 175 = .ok (.iadd, 1) := by decide +kernel
theorem dL_law_176 : decode cL_law 176 = .ok (.iaload, 1) := by decide +kernel
theorem dL_law_177 : decode cL_law 177 = .ok (.aload_n 0, 1) := by decide +kernel
theorem dL_law_178 : decode cL_law 178 = .ok (.iload 4, 2) := by decide +kernel
theorem dL_law_180 : decode cL_law 180 = .ok (.iconst 5, 1) := by decide +kernel
theorem dL_law_181 : decode cL_law 181 = .ok (.iadd, 1) := by decide +kernel
theorem dL_law_182 : decode cL_law 182 = .ok (.iaload, 1) := by decide +kernel
theorem dL_law_183 : decode cL_law 183 = .ok (.invokevirtual 19, 3) := by decide +kernel
theorem dL_law_186 : decode cL_law 186 = .ok (.aload_n 2, 1) := by decide +kernel
theorem dL_law_187 : decode cL_law 187 = .ok (.aload_n 0, 1) := by decide +kernel
theorem dL_law_188 : decode cL_law 188 = .ok (.iload 4, 2) := by decide +kernel
theorem dL_law_190 : decode cL_law 190 = .ok (.iconst 1, 1) := by decide +kernel
theorem dL_law_191 : decode cL_law 191 = .ok (.iadd, 1) := by decide +kernel
theorem dL_law_192 : decode cL_law 192 = .ok (.iaload, 1) := by decide +kernel
theorem dL_law_193 : decode cL_law 193 = .ok (.aload_n 0, 1) := by decide +kernel
theorem dL_law_194 : decode cL_law 194 = .ok (.iload 4, 2) := by decide +kernel
theorem dL_law_196 : decode cL_law 196 = .ok (.iconst 2, 1) := by decide +kernel
theorem dL_law_197 : decode cL_law 197 = .ok (.iadd, 1) := by decide +kernel
theorem dL_law_198 : decode cL_law 198 = .ok (.iaload, 1) := by decide +kernel
theorem dL_law_199 : decode cL_law 199 = .ok (.aload_n 0, 1) := by decide +kernel
theorem dL_law_200 : decode cL_law 200 = .ok (.iload 4, 2) := by decide +kernel
theorem dL_law_202 : decode cL_law 202 = .ok (.iconst 3, 1) := by decide +kernel
theorem dL_law_203 : decode cL_law 203 = .ok (.iadd, 1) := by decide +kernel
theorem dL_law_204 : decode cL_law 204 = .ok (.iaload, 1) := by decide +kernel
theorem dL_law_205 : decode cL_law 205 = .ok (.aload_n 0, 1) := by decide +kernel
theorem dL_law_206 : decode cL_law 206 = .ok (.iload 4, 2) := by decide +kernel
theorem dL_law_208 : decode cL_law 208 = .ok (.iconst 4, 1) := by decide +kernel
theorem dL_law_209 : decode cL_law 209 = .ok (.iadd, 1) := by decide +kernel
theorem dL_law_210 : decode cL_law 210 = .ok (.iaload, 1) := by decide +kernel
theorem dL_law_211 : decode cL_law 211 = .ok (.aload_n 0, 1) := by decide +kernel
theorem dL_law_212 : decode cL_law 212 = .ok (.iload 4, 2) := by decide +kernel
theorem dL_law_214 : decode cL_law 214 = .ok (.iconst 5, 1) := by decide +kernel
theorem dL_law_215 : decode cL_law 215 = .ok (.iadd, 1) := by decide +kernel
theorem dL_law_216 : decode cL_law 216 = .ok (.iaload, 1) := by decide +kernel
theorem dL_law_217 : decode cL_law 217 = .ok (.invokevirtual 23, 3) := by decide +kernel
theorem dL_law_220 : decode cL_law 220 = .ok (.if_icmp .eq 1020, 3) := by decide +kernel
theorem dL_law_223 : decode cL_law 223 = .ok (.iconst 0, 1) := by decide +kernel
theorem dL_law_224 : decode cL_law 224 = .ok (.ireturn, 1) := by decide +kernel
theorem dL_law_225 : decode cL_law 225 = .ok (.aload_n 1, 1) := by decide +kernel
theorem dL_law_226 : decode cL_law 226 = .ok (.aload_n 0, 1) := by decide +kernel
theorem dL_law_227 : decode cL_law 227 = .ok (.iload 4, 2) := by decide +kernel
theorem dL_law_229 : decode cL_law 229 = .ok (.iconst 1, 1) := by decide +kernel
theorem dL_law_230 : decode cL_law 230 = .ok (.iadd, 1) := by decide +kernel
theorem dL_law_231 : decode cL_law 231 = .ok (.iaload, 1) := by decide +kernel
theorem dL_law_232 : decode cL_law 232 = .ok (.invokevirtual 24, 3) := by decide +kernel
theorem dL_law_235 : decode cL_law 235 = .ok (.aload_n 2, 1) := by decide +kernel
theorem dL_law_236 : decode cL_law 236 = .ok (.aload_n 0, 1) := by decide +kernel
theorem dL_law_237 : decode cL_law 237 = .ok (.iload 4, 2) := by decide +kernel
theorem dL_law_239 : decode cL_law 239 = .ok (.iconst 1, 1) := by decide +kernel
theorem dL_law_240 : decode cL_law 240 = .ok (.iadd, 1) := by decide +kernel
theorem dL_law_241 : decode cL_law 241 = .ok (.iaload, 1) := by decide +kernel
theorem dL_law_242 : decode cL_law 242 = .ok (.invokevirtual 28, 3) := by decide +kernel
theorem dL_law_245 : decode cL_law 245 = .ok (.if_icmp .eq 995, 3) := by decide +kernel
theorem dL_law_248 : decode cL_law 248 = .ok (.iconst 0, 1) := by decide +kernel
theorem dL_law_249 : decode cL_law 249 = .ok (.ireturn, 1) := by decide +kernel
theorem dL_law_250 : decode cL_law 250 = .ok (.aload_n 1, 1) := by decide +kernel
theorem dL_law_251 : decode cL_law 251 = .ok (.aload_n 0, 1) := by decide +kernel
theorem dL_law_252 : decode cL_law 252 = .ok (.iload 4, 2) := by decide +kernel
theorem dL_law_254 : decode cL_law 254 = .ok (.iconst 1, 1) := by decide +kernel
theorem dL_law_255 : decode cL_law 255 = .ok (.iadd, 1) := by decide +kernel
theorem dL_law_256 : decode cL_law 256 = .ok (.iaload, 1) := by decide +kernel
theorem dL_law_257 : decode cL_law 257 = .ok (.invokevirtual 29, 3) := by decide +kernel
theorem dL_law_260 : decode cL_law 260 = .ok (.aload_n 2, 1) := by decide +kernel
theorem dL_law_261 : decode cL_law 261 = .ok (.aload_n 0, 1) := by decide +kernel
theorem dL_law_262 : decode cL_law 262 = .ok (.iload 4, 2) := by decide +kernel
theorem dL_law_264 : decode cL_law 264 = .ok (.iconst 1, 1) := by decide +kernel
theorem dL_law_265 : decode cL_law 265 = .ok (.iadd, 1) := by decide +kernel
theorem dL_law_266 : decode cL_law 266 = .ok (.iaload, 1) := by decide +kernel
theorem dL_law_267 : decode cL_law 267 = .ok (.invokevirtual 33, 3) := by decide +kernel
theorem dL_law_270 : decode cL_law 270 = .ok (.if_icmp .eq 970, 3) := by decide +kernel
theorem dL_law_273 : decode cL_law 273 = .ok (.iconst 0, 1) := by decide +kernel
theorem dL_law_274 : decode cL_law 274 = .ok (.ireturn, 1) := by decide +kernel
theorem dL_law_275 : decode cL_law 275 = .ok (.aload_n 1, 1) := by decide +kernel
theorem dL_law_276 : decode cL_law 276 = .ok (.invokevirtual 34, 3) := by decide +kernel
theorem dL_law_279 : decode cL_law 279 = .ok (.aload_n 2, 1) := by decide +kernel
theorem dL_law_280 : decode cL_law 280 = .ok (.invokevirtual 38, 3) := by decide +kernel
theorem dL_law_283 : decode cL_law 283 = .ok (.if_icmp .eq 957, 3) := by decide +kernel
theorem dL_law_286 : decode cL_law 286 = .ok (.iconst 0, 1) := by decide +kernel
theorem dL_law_287 : decode cL_law 287 = .ok (.ireturn, 1) := by decide +kernel
theorem dL_law_288 : decode cL_law 288 = .ok (.aload_n 1, 1) := by decide +kernel
theorem dL_law_289 : decode cL_law 289 = .ok (.invokevirtual 39, 3) := by decide +kernel
theorem dL_law_292 : decode cL_law 292 = .ok (.aload_n 2, 1) := by decide +kernel
theorem dL_law_293 : decode cL_law 293 = .ok (.invokevirtual 42, 3) := by decide +kernel
theorem dL_law_296 : decode cL_law 296 = .ok (.if_icmp .eq 944, 3) := by decide +kernel
theorem dL_law_299 : decode cL_law 299 = .ok (.iconst 0, 1) := by decide +kernel
theorem dL_law_300 : decode cL_law 300 = .ok (.ireturn, 1) := by decide +kernel
theorem dL_law_301 : decode cL_law 301 = .ok (.aload_n 1, 1) := by decide +kernel
theorem dL_law_302 : decode cL_law 302 = .ok (.aload_n 0, 1) := by decide +kernel
theorem dL_law_303 : decode cL_law 303 = .ok (.iload 4, 2) := by decide +kernel
theorem dL_law_305 : decode cL_law 305 = .ok (.iconst 1, 1) := by decide +kernel
theorem dL_law_306 : decode cL_law 306 = .ok (.iadd, 1) := by decide +kernel
theorem dL_law_307 : decode cL_law 307 = .ok (.iaload, 1) := by decide +kernel
theorem dL_law_308 : decode cL_law 308 = .ok (.aload_n 0, 1) := by decide +kernel
theorem dL_law_309 : decode cL_law 309 = .ok (.iload 4, 2) := by decide +kernel
theorem dL_law_311 : decode cL_law 311 = .ok (.iconst 2, 1) := by decide +kernel
theorem dL_law_312 : decode cL_law 312 = .ok (.iadd, 1) := by decide +kernel
theorem dL_law_313 : decode cL_law 313 = .ok (.iaload, 1) := by decide +kernel
theorem dL_law_314 : decode cL_law 314 = .ok (.invokevirtual 43, 3) := by decide +kernel
theorem dL_law_317 : decode cL_law 317 = .ok (.aload_n 2, 1) := by decide +kernel
theorem dL_law_318 : decode cL_law 318 = .ok (.aload_n 0, 1) := by decide +kernel
theorem dL_law_319 : decode cL_law 319 = .ok (.iload 4, 2) := by decide +kernel
theorem dL_law_321 : decode cL_law 321 = .ok (.iconst 1, 1) := by decide +kernel
theorem dL_law_322 : decode cL_law 322 = .ok (.iadd, 1) := by decide +kernel
theorem dL_law_323 : decode cL_law 323 = .ok (.iaload, 1) := by decide +kernel
theorem dL_law_324 : decode cL_law 324 = .ok (.aload_n 0, 1) := by decide +kernel
theorem dL_law_325 : decode cL_law 325 = .ok (.iload 4, 2) := by decide +kernel
theorem dL_law_327 : decode cL_law 327 = .ok (.iconst 2, 1) := by decide +kernel
theorem dL_law_328 : decode cL_law 328 = .ok (.iadd, 1) := by decide +kernel
theorem dL_law_329 : decode cL_law 329 = .ok (.iaload, 1) := by decide +kernel
theorem dL_law_330 : decode cL_law 330 = .ok (.invokevirtual 47, 3) := by decide +kernel
theorem dL_law_333 : decode cL_law 333 = .ok (.if_icmp .eq 907, 3) := by decide +kernel
theorem dL_law_336 : decode cL_law 336 = .ok (.iconst 0, 1) := by decide +kernel
theorem dL_law_337 : decode cL_law 337 = .ok (.ireturn, 1) := by decide +kernel
theorem dL_law_338 : decode cL_law 338 = .ok (.aload_n 1, 1) := by decide +kernel
theorem dL_law_339 : decode cL_law 339 = .ok (.aload_n 0, 1) := by decide +kernel
theorem dL_law_340 : decode cL_law 340 = .ok (.iload 4, 2) := by decide +kernel
theorem dL_law_342 : decode cL_law 342 = .ok (.iconst 1, 1) := by decide +kernel
theorem dL_law_343 : decode cL_law 343 = .ok (.iadd, 1) := by decide +kernel
theorem dL_law_344 : decode cL_law 344 = .ok (.iaload, 1) := by decide +kernel
theorem dL_law_345 : decode cL_law 345 = .ok (.aload_n 0, 1) := by decide +kernel
theorem dL_law_346 : decode cL_law 346 = .ok (.iload 4, 2) := by decide +kernel
theorem dL_law_348 : decode cL_law 348 = .ok (.iconst 2, 1) := by decide +kernel
theorem dL_law_349 : decode cL_law 349 = .ok (.iadd, 1) := by decide +kernel
theorem dL_law_350 : decode cL_law 350 = .ok (.iaload, 1) := by decide +kernel
theorem dL_law_351 : decode cL_law 351 = .ok (.aload_n 0, 1) := by decide +kernel
theorem dL_law_352 : decode cL_law 352 = .ok (.iload 4, 2) := by decide +kernel
theorem dL_law_354 : decode cL_law 354 = .ok (.iconst 3, 1) := by decide +kernel
theorem dL_law_355 : decode cL_law 355 = .ok (.iadd, 1) := by decide +kernel
theorem dL_law_356 : decode cL_law 356 = .ok (.iaload, 1) := by decide +kernel
theorem dL_law_357 : decode cL_law 357 = .ok (.aload_n 0, 1) := by decide +kernel
theorem dL_law_358 : decode cL_law 358 = .ok (.iload 4, 2) := by decide +kernel
theorem dL_law_360 : decode cL_law 360 = .ok (.iconst 4, 1) := by decide +kernel
theorem dL_law_361 : decode cL_law 361 = .ok (.iadd, 1) := by decide +kernel
theorem dL_law_362 : decode cL_law 362 = .ok (.iaload, 1) := by decide +kernel
theorem dL_law_363 : decode cL_law 363 = .ok (.invokevirtual 48, 3) := by decide +kernel
theorem dL_law_366 : decode cL_law 366 = .ok (.aload_n 2, 1) := by decide +kernel
theorem dL_law_367 : decode cL_law 367 = .ok (.aload_n 0, 1) := by decide +kernel
theorem dL_law_368 : decode cL_law 368 = .ok (.iload 4, 2) := by decide +kernel
theorem dL_law_370 : decode cL_law 370 = .ok (.iconst 1, 1) := by decide +kernel
theorem dL_law_371 : decode cL_law 371 = .ok (.iadd, 1) := by decide +kernel
theorem dL_law_372 : decode cL_law 372 = .ok (.iaload, 1) := by decide +kernel
theorem dL_law_373 : decode cL_law 373 = .ok (.aload_n 0, 1) := by decide +kernel
theorem dL_law_374 : decode cL_law 374 = .ok (.iload 4, 2) := by decide +kernel
theorem dL_law_376 : decode cL_law 376 = .ok (.iconst 2, 1) := by decide +kernel
theorem dL_law_377 : decode cL_law 377 = .ok (.iadd, 1) := by decide +kernel
theorem dL_law_378 : decode cL_law 378 = .ok (.iaload, 1) := by decide +kernel
theorem dL_law_379 : decode cL_law 379 = .ok (.aload_n 0, 1) := by decide +kernel
theorem dL_law_380 : decode cL_law 380 = .ok (.iload 4, 2) := by decide +kernel
theorem dL_law_382 : decode cL_law 382 = .ok (.iconst 3, 1) := by decide +kernel
theorem dL_law_383 : decode cL_law 383 = .ok (.iadd, 1) := by decide +kernel
theorem dL_law_384 : decode cL_law 384 = .ok (.iaload, 1) := by decide +kernel
theorem dL_law_385 : decode cL_law 385 = .ok (.aload_n 0, 1) := by decide +kernel
theorem dL_law_386 : decode cL_law 386 = .ok (.iload 4, 2) := by decide +kernel
theorem dL_law_388 : decode cL_law 388 = .ok (.iconst 4, 1) := by decide +kernel
theorem dL_law_389 : decode cL_law 389 = .ok (.iadd, 1) := by decide +kernel
theorem dL_law_390 : decode cL_law 390 = .ok (.iaload, 1) := by decide +kernel
theorem dL_law_391 : decode cL_law 391 = .ok (.invokevirtual 52, 3) := by decide +kernel
theorem dL_law_394 : decode cL_law 394 = .ok (.if_icmp .eq 846, 3) := by decide +kernel
theorem dL_law_397 : decode cL_law 397 = .ok (.iconst 0, 1) := by decide +kernel
theorem dL_law_398 : decode cL_law 398 = .ok (.ireturn, 1) := by decide +kernel
theorem dL_law_399 : decode cL_law 399 = .ok (.aload_n 1, 1) := by decide +kernel
theorem dL_law_400 : decode cL_law 400 = .ok (.aload_n 0, 1) := by decide +kernel
theorem dL_law_401 : decode cL_law 401 = .ok (.iload 4, 2) := by decide +kernel
theorem dL_law_403 : decode cL_law 403 = .ok (.iconst 1, 1) := by decide +kernel
theorem dL_law_404 : decode cL_law 404 = .ok (.iadd, 1) := by decide +kernel
theorem dL_law_405 : decode cL_law 405 = .ok (.iaload, 1) := by decide +kernel
theorem dL_law_406 : decode cL_law 406 = .ok (.aload_n 0, 1) := by decide +kernel
theorem dL_law_407 : decode cL_law 407 = .ok (.iload 4, 2) := by decide +kernel
theorem dL_law_409 : decode cL_law 409 = .ok (.iconst 2, 1) := by decide +kernel
theorem dL_law_410 : decode cL_law 410 = .ok (.iadd, 1) := by decide +kernel
theorem dL_law_411 : decode cL_law 411 = .ok (.iaload, 1) := by decide +kernel
theorem dL_law_412 : decode cL_law 412 = .ok (.aload_n 0, 1) := by decide +kernel
theorem dL_law_413 : decode cL_law 413 = .ok (.iload 4, 2) := by decide +kernel
theorem dL_law_415 : decode cL_law 415 = .ok (.iconst 3, 1) := by decide +kernel
theorem dL_law_416 : decode cL_law 416 = .ok (.iadd, 1) := by decide +kernel
theorem dL_law_417 : decode cL_law 417 = .ok (.iaload, 1) := by decide +kernel
theorem dL_law_418 : decode cL_law 418 = .ok (.aload_n 0, 1) := by decide +kernel
theorem dL_law_419 : decode cL_law 419 = .ok (.iload 4, 2) := by decide +kernel
theorem dL_law_421 : decode cL_law 421 = .ok (.iconst 4, 1) := by decide +kernel
theorem dL_law_422 : decode cL_law 422 = .ok (.iadd, 1) := by decide +kernel
theorem dL_law_423 : decode cL_law 423 = .ok (.iaload, 1) := by decide +kernel
theorem dL_law_424 : decode cL_law 424 = .ok (.aload_n 0, 1) := by decide +kernel
theorem dL_law_425 : decode cL_law 425 = .ok (.iload 4, 2) := by decide +kernel
theorem dL_law_427 : decode cL_law 427 = .ok (.iconst 5, 1) := by decide +kernel
theorem dL_law_428 : decode cL_law 428 = .ok (.iadd, 1) := by decide +kernel
theorem dL_law_429 : decode cL_law 429 = .ok (.iaload, 1) := by decide +kernel
theorem dL_law_430 : decode cL_law 430 = .ok (.invokevirtual 53, 3) := by decide +kernel
theorem dL_law_433 : decode cL_law 433 = .ok (.aload_n 2, 1) := by decide +kernel
theorem dL_law_434 : decode cL_law 434 = .ok (.aload_n 0, 1) := by decide +kernel
theorem dL_law_435 : decode cL_law 435 = .ok (.iload 4, 2) := by decide +kernel
theorem dL_law_437 : decode cL_law 437 = .ok (.iconst 1, 1) := by decide +kernel
theorem dL_law_438 : decode cL_law 438 = .ok (.iadd, 1) := by decide +kernel
theorem dL_law_439 : decode cL_law 439 = .ok (.iaload, 1) := by decide +kernel
theorem dL_law_440 : decode cL_law 440 = .ok (.aload_n 0, 1) := by decide +kernel
theorem dL_law_441 : decode cL_law 441 = .ok (.iload 4, 2) := by decide +kernel
theorem dL_law_443 : decode cL_law 443 = .ok (.iconst 2, 1) := by decide +kernel
theorem dL_law_444 : decode cL_law 444 = .ok (.iadd, 1) := by decide +kernel
theorem dL_law_445 : decode cL_law 445 = .ok (.iaload, 1) := by decide +kernel
theorem dL_law_446 : decode cL_law 446 = .ok (.aload_n 0, 1) := by decide +kernel
theorem dL_law_447 : decode cL_law 447 = .ok (.iload 4, 2) := by decide +kernel
theorem dL_law_449 : decode cL_law 449 = .ok (.iconst 3, 1) := by decide +kernel
theorem dL_law_450 : decode cL_law 450 = .ok (.iadd, 1) := by decide +kernel
theorem dL_law_451 : decode cL_law 451 = .ok (.iaload, 1) := by decide +kernel
theorem dL_law_452 : decode cL_law 452 = .ok (.aload_n 0, 1) := by decide +kernel
theorem dL_law_453 : decode cL_law 453 = .ok (.iload 4, 2) := by decide +kernel
theorem dL_law_455 : decode cL_law 455 = .ok (.iconst 4, 1) := by decide +kernel
theorem dL_law_456 : decode cL_law 456 = .ok (.iadd, 1) := by decide +kernel
theorem dL_law_457 : decode cL_law 457 = .ok (.iaload, 1) := by decide +kernel
theorem dL_law_458 : decode cL_law 458 = .ok (.aload_n 0, 1) := by decide +kernel
theorem dL_law_459 : decode cL_law 459 = .ok (.iload 4, 2) := by decide +kernel
theorem dL_law_461 : decode cL_law 461 = .ok (.iconst 5, 1) := by decide +kernel
theorem dL_law_462 : decode cL_law 462 = .ok (.iadd, 1) := by decide +kernel
theorem dL_law_463 : decode cL_law 463 = .ok (.iaload, 1) := by decide +kernel
theorem dL_law_464 : decode cL_law 464 = .ok (.invokevirtual 56, 3) := by decide +kernel
theorem dL_law_467 : decode cL_law 467 = .ok (.if_icmp .eq 773, 3) := by decide +kernel
theorem dL_law_470 : decode cL_law 470 = .ok (.iconst 0, 1) := by decide +kernel
theorem dL_law_471 : decode cL_law 471 = .ok (.ireturn, 1) := by decide +kernel
theorem dL_law_472 : decode cL_law 472 = .ok (.aload_n 1, 1) := by decide +kernel
theorem dL_law_473 : decode cL_law 473 = .ok (.aload_n 0, 1) := by decide +kernel
theorem dL_law_474 : decode cL_law 474 = .ok (.iload 4, 2) := by decide +kernel
theorem dL_law_476 : decode cL_law 476 = .ok (.iconst 1, 1) := by decide +kernel
theorem dL_law_477 : decode cL_law 477 = .ok (.iadd, 1) := by decide +kernel
theorem dL_law_478 : decode cL_law 478 = .ok (.iaload, 1) := by decide +kernel
theorem dL_law_479 : decode cL_law 479 = .ok (.aload_n 0, 1) := by decide +kernel
theorem dL_law_480 : decode cL_law 480 = .ok (.iload 4, 2) := by decide +kernel
theorem dL_law_482 : decode cL_law 482 = .ok (.iconst 2, 1) := by decide +kernel
theorem dL_law_483 : decode cL_law 483 = .ok (.iadd, 1) := by decide +kernel
theorem dL_law_484 : decode cL_law 484 = .ok (.iaload, 1) := by decide +kernel
theorem dL_law_485 : decode cL_law 485 = .ok (.aload_n 0, 1) := by decide +kernel
theorem dL_law_486 : decode cL_law 486 = .ok (.iload 4, 2) := by decide +kernel
theorem dL_law_488 : decode cL_law 488 = .ok (.iconst 3, 1) := by decide +kernel
theorem dL_law_489 : decode cL_law 489 = .ok (.iadd, 1) := by decide +kernel
theorem dL_law_490 : decode cL_law 490 = .ok (.iaload, 1) := by decide +kernel
theorem dL_law_491 : decode cL_law 491 = .ok (.aload_n 0, 1) := by decide +kernel
theorem dL_law_492 : decode cL_law 492 = .ok (.iload 4, 2) := by decide +kernel
theorem dL_law_494 : decode cL_law 494 = .ok (.iconst 4, 1) := by decide +kernel
theorem dL_law_495 : decode cL_law 495 = .ok (.iadd, 1) := by decide +kernel
theorem dL_law_496 : decode cL_law 496 = .ok (.iaload, 1) := by decide +kernel
theorem dL_law_497 : decode cL_law 497 = .ok (.aload_n 0, 1) := by decide +kernel
theorem dL_law_498 : decode cL_law 498 = .ok (.iload 4, 2) := by decide +kernel
theorem dL_law_500 : decode cL_law 500 = .ok (.iconst 5, 1) := by decide +kernel
theorem dL_law_501 : decode cL_law 501 = .ok (.iadd, 1) := by decide +kernel
theorem dL_law_502 : decode cL_law 502 = .ok (.iaload, 1) := by decide +kernel
theorem dL_law_503 : decode cL_law 503 = .ok (.invokevirtual 57, 3) := by decide +kernel
theorem dL_law_506 : decode cL_law 506 = .ok (.aload_n 2, 1) := by decide +kernel
theorem dL_law_507 : decode cL_law 507 = .ok (.aload_n 0, 1) := by decide +kernel
theorem dL_law_508 : decode cL_law 508 = .ok (.iload 4, 2) := by decide +kernel
theorem dL_law_510 : decode cL_law 510 = .ok (.iconst 1, 1) := by decide +kernel
theorem dL_law_511 : decode cL_law 511 = .ok (.iadd, 1) := by decide +kernel
theorem dL_law_512 : decode cL_law 512 = .ok (.iaload, 1) := by decide +kernel
theorem dL_law_513 : decode cL_law 513 = .ok (.aload_n 0, 1) := by decide +kernel
theorem dL_law_514 : decode cL_law 514 = .ok (.iload 4, 2) := by decide +kernel
theorem dL_law_516 : decode cL_law 516 = .ok (.iconst 2, 1) := by decide +kernel
theorem dL_law_517 : decode cL_law 517 = .ok (.iadd, 1) := by decide +kernel
theorem dL_law_518 : decode cL_law 518 = .ok (.iaload, 1) := by decide +kernel
theorem dL_law_519 : decode cL_law 519 = .ok (.aload_n 0, 1) := by decide +kernel
theorem dL_law_520 : decode cL_law 520 = .ok (.iload 4, 2) := by decide +kernel
theorem dL_law_522 : decode cL_law 522 = .ok (.iconst 3, 1) := by decide +kernel
theorem dL_law_523 : decode cL_law 523 = .ok (.iadd, 1) := by decide +kernel
theorem dL_law_524 : decode cL_law 524 = .ok (.iaload, 1) := by decide +kernel
theorem dL_law_525 : decode cL_law 525 = .ok (.aload_n 0, 1) := by decide +kernel
theorem dL_law_526 : decode cL_law 526 = .ok (.iload 4, 2) := by decide +kernel
theorem dL_law_528 : decode cL_law 528 = .ok (.iconst 4, 1) := by decide +kernel
theorem dL_law_529 : decode cL_law 529 = .ok (.iadd, 1) := by decide +kernel
theorem dL_law_530 : decode cL_law 530 = .ok (.iaload, 1) := by decide +kernel
theorem dL_law_531 : decode cL_law 531 = .ok (.aload_n 0, 1) := by decide +kernel
theorem dL_law_532 : decode cL_law 532 = .ok (.iload 4, 2) := by decide +kernel
theorem dL_law_534 : decode cL_law 534 = .ok (.iconst 5, 1) := by decide +kernel
theorem dL_law_535 : decode cL_law 535 = .ok (.iadd, 1) := by decide +kernel
theorem dL_law_536 : decode cL_law 536 = .ok (.iaload, 1) := by decide +kernel
theorem dL_law_537 : decode cL_law 537 = .ok (.invokevirtual 60, 3) := by decide +kernel
theorem dL_law_540 : decode cL_law 540 = .ok (.if_icmp .eq 700, 3) := by decide +kernel
theorem dL_law_543 : decode cL_law 543 = .ok (.iconst 0, 1) := by decide +kernel
theorem dL_law_544 : decode cL_law 544 = .ok (.ireturn, 1) := by decide +kernel
theorem dL_law_545 : decode cL_law 545 = .ok (.aload_n 1, 1) := by decide +kernel
theorem dL_law_546 : decode cL_law 546 = .ok (.aload_n 0, 1) := by decide +kernel
theorem dL_law_547 : decode cL_law 547 = .ok (.iload 4, 2) := by decide +kernel
theorem dL_law_549 : decode cL_law 549 = .ok (.iconst 1, 1) := by decide +kernel
theorem dL_law_550 : decode cL_law 550 = .ok (.iadd, 1) := by decide +kernel
theorem dL_law_551 : decode cL_law 551 = .ok (.iaload, 1) := by decide +kernel
theorem dL_law_552 : decode cL_law 552 = .ok (.aload_n 0, 1) := by decide +kernel
theorem dL_law_553 : decode cL_law 553 = .ok (.iload 4, 2) := by decide +kernel
theorem dL_law_555 : decode cL_law 555 = .ok (.iconst 2, 1) := by decide +kernel
theorem dL_law_556 : decode cL_law 556 = .ok (.iadd, 1) := by decide +kernel
theorem dL_law_557 : decode cL_law 557 = .ok (.iaload, 1) := by decide +kernel
theorem dL_law_558 : decode cL_law 558 = .ok (.aload_n 0, 1) := by decide +kernel
theorem dL_law_559 : decode cL_law 559 = .ok (.iload 4, 2) := by decide +kernel
theorem dL_law_561 : decode cL_law 561 = .ok (.iconst 3, 1) := by decide +kernel
theorem dL_law_562 : decode cL_law 562 = .ok (.iadd, 1) := by decide +kernel
theorem dL_law_563 : decode cL_law 563 = .ok (.iaload, 1) := by decide +kernel
theorem dL_law_564 : decode cL_law 564 = .ok (.aload_n 0, 1) := by decide +kernel
theorem dL_law_565 : decode cL_law 565 = .ok (.iload 4, 2) := by decide +kernel
theorem dL_law_567 : decode cL_law 567 = .ok (.iconst 4, 1) := by decide +kernel
theorem dL_law_568 : decode cL_law 568 = .ok (.iadd, 1) := by decide +kernel
theorem dL_law_569 : decode cL_law 569 = .ok (.iaload, 1) := by decide +kernel
theorem dL_law_570 : decode cL_law 570 = .ok (.invokevirtual 61, 3) := by decide +kernel
theorem dL_law_573 : decode cL_law 573 = .ok (.aload_n 2, 1) := by decide +kernel
theorem dL_law_574 : decode cL_law 574 = .ok (.aload_n 0, 1) := by decide +kernel
theorem dL_law_575 : decode cL_law 575 = .ok (.iload 4, 2) := by decide +kernel
theorem dL_law_577 : decode cL_law 577 = .ok (.iconst 1, 1) := by decide +kernel
theorem dL_law_578 : decode cL_law 578 = .ok (.iadd, 1) := by decide +kernel
theorem dL_law_579 : decode cL_law 579 = .ok (.iaload, 1) := by decide +kernel
theorem dL_law_580 : decode cL_law 580 = .ok (.aload_n 0, 1) := by decide +kernel
theorem dL_law_581 : decode cL_law 581 = .ok (.iload 4, 2) := by decide +kernel
theorem dL_law_583 : decode cL_law 583 = .ok (.iconst 2, 1) := by decide +kernel
theorem dL_law_584 : decode cL_law 584 = .ok (.iadd, 1) := by decide +kernel
theorem dL_law_585 : decode cL_law 585 = .ok (.iaload, 1) := by decide +kernel
theorem dL_law_586 : decode cL_law 586 = .ok (.aload_n 0, 1) := by decide +kernel
theorem dL_law_587 : decode cL_law 587 = .ok (.iload 4, 2) := by decide +kernel
theorem dL_law_589 : decode cL_law 589 = .ok (.iconst 3, 1) := by decide +kernel
theorem dL_law_590 : decode cL_law 590 = .ok (.iadd, 1) := by decide +kernel
theorem dL_law_591 : decode cL_law 591 = .ok (.iaload, 1) := by decide +kernel
theorem dL_law_592 : decode cL_law 592 = .ok (.aload_n 0, 1) := by decide +kernel
theorem dL_law_593 : decode cL_law 593 = .ok (.iload 4, 2) := by decide +kernel
theorem dL_law_595 : decode cL_law 595 = .ok (.iconst 4, 1) := by decide +kernel
theorem dL_law_596 : decode cL_law 596 = .ok (.iadd, 1) := by decide +kernel
theorem dL_law_597 : decode cL_law 597 = .ok (.iaload, 1) := by decide +kernel
theorem dL_law_598 : decode cL_law 598 = .ok (.invokevirtual 64, 3) := by decide +kernel
theorem dL_law_601 : decode cL_law 601 = .ok (.if_icmp .eq 639, 3) := by decide +kernel
theorem dL_law_604 : decode cL_law 604 = .ok (.iconst 0, 1) := by decide +kernel
theorem dL_law_605 : decode cL_law 605 = .ok (.ireturn, 1) := by decide +kernel
theorem dL_law_606 : decode cL_law 606 = .ok (.aload_n 1, 1) := by decide +kernel
theorem dL_law_607 : decode cL_law 607 = .ok (.aload_n 0, 1) := by decide +kernel
theorem dL_law_608 : decode cL_law 608 = .ok (.iload 4, 2) := by decide +kernel
theorem dL_law_610 : decode cL_law 610 = .ok (.iconst 1, 1) := by decide +kernel
theorem dL_law_611 : decode cL_law 611 = .ok (.iadd, 1) := by decide +kernel
theorem dL_law_612 : decode cL_law 612 = .ok (.iaload, 1) := by decide +kernel
theorem dL_law_613 : decode cL_law 613 = .ok (.aload_n 0, 1) := by decide +kernel
theorem dL_law_614 : decode cL_law 614 = .ok (.iload 4, 2) := by decide +kernel
theorem dL_law_616 : decode cL_law 616 = .ok (.iconst 2, 1) := by decide +kernel
theorem dL_law_617 : decode cL_law 617 = .ok (.iadd, 1) := by decide +kernel
theorem dL_law_618 : decode cL_law 618 = .ok (.iaload, 1) := by decide +kernel
theorem dL_law_619 : decode cL_law 619 = .ok (.invokevirtual 65, 3) := by decide +kernel
theorem dL_law_622 : decode cL_law 622 = .ok (.aload_n 2, 1) := by decide +kernel
theorem dL_law_623 : decode cL_law 623 = .ok (.aload_n 0, 1) := by decide +kernel
theorem dL_law_624 : decode cL_law 624 = .ok (.iload 4, 2) := by decide +kernel
theorem dL_law_626 : decode cL_law 626 = .ok (.iconst 1, 1) := by decide +kernel
theorem dL_law_627 : decode cL_law 627 = .ok (.iadd, 1) := by decide +kernel
theorem dL_law_628 : decode cL_law 628 = .ok (.iaload, 1) := by decide +kernel
theorem dL_law_629 : decode cL_law 629 = .ok (.aload_n 0, 1) := by decide +kernel
theorem dL_law_630 : decode cL_law 630 = .ok (.iload 4, 2) := by decide +kernel
theorem dL_law_632 : decode cL_law 632 = .ok (.iconst 2, 1) := by decide +kernel
theorem dL_law_633 : decode cL_law 633 = .ok (.iadd, 1) := by decide +kernel
theorem dL_law_634 : decode cL_law 634 = .ok (.iaload, 1) := by decide +kernel
theorem dL_law_635 : decode cL_law 635 = .ok (.invokevirtual 68, 3) := by decide +kernel
theorem dL_law_638 : decode cL_law 638 = .ok (.if_icmp .eq 602, 3) := by decide +kernel
theorem dL_law_641 : decode cL_law 641 = .ok (.iconst 0, 1) := by decide +kernel
theorem dL_law_642 : decode cL_law 642 = .ok (.ireturn, 1) := by decide +kernel
theorem dL_law_643 : decode cL_law 643 = .ok (.aload_n 1, 1) := by decide +kernel
theorem dL_law_644 : decode cL_law 644 = .ok (.invokevirtual 69, 3) := by decide +kernel
theorem dL_law_647 : decode cL_law 647 = .ok (.aload_n 2, 1) := by decide +kernel
theorem dL_law_648 : decode cL_law 648 = .ok (.invokevirtual 72, 3) := by decide +kernel
theorem dL_law_651 : decode cL_law 651 = .ok (.if_icmp .eq 589, 3) := by decide +kernel
theorem dL_law_654 : decode cL_law 654 = .ok (.iconst 0, 1) := by decide +kernel
theorem dL_law_655 : decode cL_law 655 = .ok (.ireturn, 1) := by decide +kernel
theorem dL_law_656 : decode cL_law 656 = .ok (.aload_n 1, 1) := by decide +kernel
theorem dL_law_657 : decode cL_law 657 = .ok (.aload_n 0, 1) := by decide +kernel
theorem dL_law_658 : decode cL_law 658 = .ok (.iload 4, 2) := by decide +kernel
theorem dL_law_660 : decode cL_law 660 = .ok (.iconst 1, 1) := by decide +kernel
theorem dL_law_661 : decode cL_law 661 = .ok (.iadd, 1) := by decide +kernel
theorem dL_law_662 : decode cL_law 662 = .ok (.iaload, 1) := by decide +kernel
theorem dL_law_663 : decode cL_law 663 = .ok (.aload_n 0, 1) := by decide +kernel
theorem dL_law_664 : decode cL_law 664 = .ok (.iload 4, 2) := by decide +kernel
theorem dL_law_666 : decode cL_law 666 = .ok (.iconst 2, 1) := by decide +kernel
theorem dL_law_667 : decode cL_law 667 = .ok (.iadd, 1) := by decide +kernel
theorem dL_law_668 : decode cL_law 668 = .ok (.iaload, 1) := by decide +kernel
theorem dL_law_669 : decode cL_law 669 = .ok (.aload_n 0, 1) := by decide +kernel
theorem dL_law_670 : decode cL_law 670 = .ok (.iload 4, 2) := by decide +kernel
theorem dL_law_672 : decode cL_law 672 = .ok (.iconst 3, 1) := by decide +kernel
theorem dL_law_673 : decode cL_law 673 = .ok (.iadd, 1) := by decide +kernel
theorem dL_law_674 : decode cL_law 674 = .ok (.iaload, 1) := by decide +kernel
theorem dL_law_675 : decode cL_law 675 = .ok (.aload_n 0, 1) := by decide +kernel
theorem dL_law_676 : decode cL_law 676 = .ok (.iload 4, 2) := by decide +kernel
theorem dL_law_678 : decode cL_law 678 = .ok (.iconst 4, 1) := by decide +kernel
theorem dL_law_679 : decode cL_law 679 = .ok (.iadd, 1) := by decide +kernel
theorem dL_law_680 : decode cL_law 680 = .ok (.iaload, 1) := by decide +kernel
theorem dL_law_681 : decode cL_law 681 = .ok (.invokevirtual 73, 3) := by decide +kernel
theorem dL_law_684 : decode cL_law 684 = .ok (.aload_n 2, 1) := by decide +kernel
theorem dL_law_685 : decode cL_law 685 = .ok (.aload_n 0, 1) := by decide +kernel
theorem dL_law_686 : decode cL_law 686 = .ok (.iload 4, 2) := by decide +kernel
theorem dL_law_688 : decode cL_law 688 = .ok (.iconst 1, 1) := by decide +kernel
theorem dL_law_689 : decode cL_law 689 = .ok (.iadd, 1) := by decide +kernel
theorem dL_law_690 : decode cL_law 690 = .ok (.iaload, 1) := by decide +kernel
theorem dL_law_691 : decode cL_law 691 = .ok (.aload_n 0, 1) := by decide +kernel
theorem dL_law_692 : decode cL_law 692 = .ok (.iload 4, 2) := by decide +kernel
theorem dL_law_694 : decode cL_law 694 = .ok (.iconst 2, 1) := by decide +kernel
theorem dL_law_695 : decode cL_law 695 = .ok (.iadd, 1) := by decide +kernel
theorem dL_law_696 : decode cL_law 696 = .ok (.iaload, 1) := by decide +kernel
theorem dL_law_697 : decode cL_law 697 = .ok (.aload_n 0, 1) := by decide +kernel
theorem dL_law_698 : decode cL_law 698 = .ok (.iload 4, 2) := by decide +kernel
theorem dL_law_700 : decode cL_law 700 = .ok (.iconst 3, 1) := by decide +kernel
theorem dL_law_701 : decode cL_law 701 = .ok (.iadd, 1) := by decide +kernel
theorem dL_law_702 : decode cL_law 702 = .ok (.iaload, 1) := by decide +kernel
theorem dL_law_703 : decode cL_law 703 = .ok (.aload_n 0, 1) := by decide +kernel
theorem dL_law_704 : decode cL_law 704 = .ok (.iload 4, 2) := by decide +kernel
theorem dL_law_706 : decode cL_law 706 = .ok (.iconst 4, 1) := by decide +kernel
theorem dL_law_707 : decode cL_law 707 = .ok (.iadd, 1) := by decide +kernel
theorem dL_law_708 : decode cL_law 708 = .ok (.iaload, 1) := by decide +kernel
theorem dL_law_709 : decode cL_law 709 = .ok (.invokevirtual 76, 3) := by decide +kernel
theorem dL_law_712 : decode cL_law 712 = .ok (.if_icmp .eq 528, 3) := by decide +kernel
theorem dL_law_715 : decode cL_law 715 = .ok (.iconst 0, 1) := by decide +kernel
theorem dL_law_716 : decode cL_law 716 = .ok (.ireturn, 1) := by decide +kernel
theorem dL_law_717 : decode cL_law 717 = .ok (.aload_n 1, 1) := by decide +kernel
theorem dL_law_718 : decode cL_law 718 = .ok (.aload_n 0, 1) := by decide +kernel
theorem dL_law_719 : decode cL_law 719 = .ok (.iload 4, 2) := by decide +kernel
theorem dL_law_721 : decode cL_law 721 = .ok (.iconst 1, 1) := by decide +kernel
theorem dL_law_722 : decode cL_law 722 = .ok (.iadd, 1) := by decide +kernel
theorem dL_law_723 : decode cL_law 723 = .ok (.iaload, 1) := by decide +kernel
theorem dL_law_724 : decode cL_law 724 = .ok (.aload_n 0, 1) := by decide +kernel
theorem dL_law_725 : decode cL_law 725 = .ok (.iload 4, 2) := by decide +kernel
theorem dL_law_727 : decode cL_law 727 = .ok (.iconst 2, 1) := by decide +kernel
theorem dL_law_728 : decode cL_law 728 = .ok (.iadd, 1) := by decide +kernel
theorem dL_law_729 : decode cL_law 729 = .ok (.iaload, 1) := by decide +kernel
theorem dL_law_730 : decode cL_law 730 = .ok (.aload_n 0, 1) := by decide +kernel
theorem dL_law_731 : decode cL_law 731 = .ok (.iload 4, 2) := by decide +kernel
theorem dL_law_733 : decode cL_law 733 = .ok (.iconst 3, 1) := by decide +kernel
theorem dL_law_734 : decode cL_law 734 = .ok (.iadd, 1) := by decide +kernel
theorem dL_law_735 : decode cL_law 735 = .ok (.iaload, 1) := by decide +kernel
theorem dL_law_736 : decode cL_law 736 = .ok (.invokevirtual 77, 3) := by decide +kernel
theorem dL_law_739 : decode cL_law 739 = .ok (.aload_n 2, 1) := by decide +kernel
theorem dL_law_740 : decode cL_law 740 = .ok (.aload_n 0, 1) := by decide +kernel
theorem dL_law_741 : decode cL_law 741 = .ok (.iload 4, 2) := by decide +kernel
theorem dL_law_743 : decode cL_law 743 = .ok (.iconst 1, 1) := by decide +kernel
theorem dL_law_744 : decode cL_law 744 = .ok (.iadd, 1) := by decide +kernel
theorem dL_law_745 : decode cL_law 745 = .ok (.iaload, 1) := by decide +kernel
theorem dL_law_746 : decode cL_law 746 = .ok (.aload_n 0, 1) := by decide +kernel
theorem dL_law_747 : decode cL_law 747 = .ok (.iload 4, 2) := by decide +kernel
theorem dL_law_749 : decode cL_law 749 = .ok (.iconst 2, 1) := by decide +kernel
theorem dL_law_750 : decode cL_law 750 = .ok (.iadd, 1) := by decide +kernel
theorem dL_law_751 : decode cL_law 751 = .ok (.iaload, 1) := by decide +kernel
theorem dL_law_752 : decode cL_law 752 = .ok (.aload_n 0, 1) := by decide +kernel
theorem dL_law_753 : decode cL_law 753 = .ok (.iload 4, 2) := by decide +kernel
theorem dL_law_755 : decode cL_law 755 = .ok (.iconst 3, 1) := by decide +kernel
theorem dL_law_756 : decode cL_law 756 = .ok (.iadd, 1) := by decide +kernel
theorem dL_law_757 : decode cL_law 757 = .ok (.iaload, 1) := by decide +kernel
theorem dL_law_758 : decode cL_law 758 = .ok (.invokevirtual 81, 3) := by decide +kernel
theorem dL_law_761 : decode cL_law 761 = .ok (.if_icmp .eq 479, 3) := by decide +kernel
theorem dL_law_764 : decode cL_law 764 = .ok (.iconst 0, 1) := by decide +kernel
theorem dL_law_765 : decode cL_law 765 = .ok (.ireturn, 1) := by decide +kernel
theorem dL_law_766 : decode cL_law 766 = .ok (.aload_n 1, 1) := by decide +kernel
theorem dL_law_767 : decode cL_law 767 = .ok (.aload_n 0, 1) := by decide +kernel
theorem dL_law_768 : decode cL_law 768 = .ok (.iload 4, 2) := by decide +kernel
theorem dL_law_770 : decode cL_law 770 = .ok (.iconst 1, 1) := by decide +kernel
theorem dL_law_771 : decode cL_law 771 = .ok (.iadd, 1) := by decide +kernel
theorem dL_law_772 : decode cL_law 772 = .ok (.iaload, 1) := by decide +kernel
theorem dL_law_773 : decode cL_law 773 = .ok (.aload_n 0, 1) := by decide +kernel
theorem dL_law_774 : decode cL_law 774 = .ok (.iload 4, 2) := by decide +kernel
theorem dL_law_776 : decode cL_law 776 = .ok (.iconst 2, 1) := by decide +kernel
theorem dL_law_777 : decode cL_law 777 = .ok (.iadd, 1) := by decide +kernel
theorem dL_law_778 : decode cL_law 778 = .ok (.iaload, 1) := by decide +kernel
theorem dL_law_779 : decode cL_law 779 = .ok (.aload_n 0, 1) := by decide +kernel
theorem dL_law_780 : decode cL_law 780 = .ok (.iload 4, 2) := by decide +kernel
theorem dL_law_782 : decode cL_law 782 = .ok (.iconst 3, 1) := by decide +kernel
theorem dL_law_783 : decode cL_law 783 = .ok (.iadd, 1) := by decide +kernel
theorem dL_law_784 : decode cL_law 784 = .ok (.iaload, 1) := by decide +kernel
theorem dL_law_785 : decode cL_law 785 = .ok (.aload_n 0, 1) := by decide +kernel
theorem dL_law_786 : decode cL_law 786 = .ok (.iload 4, 2) := by decide +kernel
theorem dL_law_788 : decode cL_law 788 = .ok (.iconst 4, 1) := by decide +kernel
theorem dL_law_789 : decode cL_law 789 = .ok (.iadd, 1) := by decide +kernel
theorem dL_law_790 : decode cL_law 790 = .ok (.iaload, 1) := by decide +kernel
theorem dL_law_791 : decode cL_law 791 = .ok (.aload_n 0, 1) := by decide +kernel
theorem dL_law_792 : decode cL_law 792 = .ok (.iload 4, 2) := by decide +kernel
theorem dL_law_794 : decode cL_law 794 = .ok (.iconst 5, 1) := by decide +kernel
theorem dL_law_795 : decode cL_law 795 = .ok (.iadd, 1) := by decide +kernel
theorem dL_law_796 : decode cL_law 796 = .ok (.iaload, 1) := by decide +kernel
theorem dL_law_797 : decode cL_law 797 = .ok (.aload_n 0, 1) := by decide +kernel
theorem dL_law_798 : decode cL_law 798 = .ok (.iload 4, 2) := by decide +kernel
theorem dL_law_800 : decode cL_law 800 = .ok (.bipush 6, 2) := by decide +kernel
theorem dL_law_802 : decode cL_law 802 = .ok (.iadd, 1) := by decide +kernel
theorem dL_law_803 : decode cL_law 803 = .ok (.iaload, 1) := by decide +kernel
theorem dL_law_804 : decode cL_law 804 = .ok (.invokevirtual 82, 3) := by decide +kernel
theorem dL_law_807 : decode cL_law 807 = .ok (.aload_n 2, 1) := by decide +kernel
theorem dL_law_808 : decode cL_law 808 = .ok (.aload_n 0, 1) := by decide +kernel
theorem dL_law_809 : decode cL_law 809 = .ok (.iload 4, 2) := by decide +kernel
theorem dL_law_811 : decode cL_law 811 = .ok (.iconst 1, 1) := by decide +kernel
theorem dL_law_812 : decode cL_law 812 = .ok (.iadd, 1) := by decide +kernel
theorem dL_law_813 : decode cL_law 813 = .ok (.iaload, 1) := by decide +kernel
theorem dL_law_814 : decode cL_law 814 = .ok (.aload_n 0, 1) := by decide +kernel
theorem dL_law_815 : decode cL_law 815 = .ok (.iload 4, 2) := by decide +kernel
theorem dL_law_817 : decode cL_law 817 = .ok (.iconst 2, 1) := by decide +kernel
theorem dL_law_818 : decode cL_law 818 = .ok (.iadd, 1) := by decide +kernel
theorem dL_law_819 : decode cL_law 819 = .ok (.iaload, 1) := by decide +kernel
theorem dL_law_820 : decode cL_law 820 = .ok (.aload_n 0, 1) := by decide +kernel
theorem dL_law_821 : decode cL_law 821 = .ok (.iload 4, 2) := by decide +kernel
theorem dL_law_823 : decode cL_law 823 = .ok (.iconst 3, 1) := by decide +kernel
theorem dL_law_824 : decode cL_law 824 = .ok (.iadd, 1) := by decide +kernel
theorem dL_law_825 : decode cL_law 825 = .ok (.iaload, 1) := by decide +kernel
theorem dL_law_826 : decode cL_law 826 = .ok (.aload_n 0, 1) := by decide +kernel
theorem dL_law_827 : decode cL_law 827 = .ok (.iload 4, 2) := by decide +kernel
theorem dL_law_829 : decode cL_law 829 = .ok (.iconst 4, 1) := by decide +kernel
theorem dL_law_830 : decode cL_law 830 = .ok (.iadd, 1) := by decide +kernel
theorem dL_law_831 : decode cL_law 831 = .ok (.iaload, 1) := by decide +kernel
theorem dL_law_832 : decode cL_law 832 = .ok (.aload_n 0, 1) := by decide +kernel
theorem dL_law_833 : decode cL_law 833 = .ok (.iload 4, 2) := by decide +kernel
theorem dL_law_835 : decode cL_law 835 = .ok (.iconst 5, 1) := by decide +kernel
theorem dL_law_836 : decode cL_law 836 = .ok (.iadd, 1) := by decide +kernel
theorem dL_law_837 : decode cL_law 837 = .ok (.iaload, 1) := by decide +kernel
theorem dL_law_838 : decode cL_law 838 = .ok (.aload_n 0, 1) := by decide +kernel
theorem dL_law_839 : decode cL_law 839 = .ok (.iload 4, 2) := by decide +kernel
theorem dL_law_841 : decode cL_law 841 = .ok (.bipush 6, 2) := by decide +kernel
theorem dL_law_843 : decode cL_law 843 = .ok (.iadd, 1) := by decide +kernel
theorem dL_law_844 : decode cL_law 844 = .ok (.iaload, 1) := by decide +kernel
theorem dL_law_845 : decode cL_law 845 = .ok (.invokevirtual 86, 3) := by decide +kernel
theorem dL_law_848 : decode cL_law 848 = .ok (.if_icmp .eq 392, 3) := by decide +kernel
theorem dL_law_851 : decode cL_law 851 = .ok (.iconst 0, 1) := by decide +kernel
theorem dL_law_852 : decode cL_law 852 = .ok (.ireturn, 1) := by decide +kernel
theorem dL_law_853 : decode cL_law 853 = .ok (.aload_n 1, 1) := by decide +kernel
theorem dL_law_854 : decode cL_law 854 = .ok (.aload_n 0, 1) := by decide +kernel
theorem dL_law_855 : decode cL_law 855 = .ok (.iload 4, 2) := by decide +kernel
theorem dL_law_857 : decode cL_law 857 = .ok (.iconst 1, 1) := by decide +kernel
theorem dL_law_858 : decode cL_law 858 = .ok (.iadd, 1) := by decide +kernel
theorem dL_law_859 : decode cL_law 859 = .ok (.iaload, 1) := by decide +kernel
theorem dL_law_860 : decode cL_law 860 = .ok (.aload_n 0, 1) := by decide +kernel
theorem dL_law_861 : decode cL_law 861 = .ok (.iload 4, 2) := by decide +kernel
theorem dL_law_863 : decode cL_law 863 = .ok (.iconst 2, 1) := by decide +kernel
theorem dL_law_864 : decode cL_law 864 = .ok (.iadd, 1) := by decide +kernel
theorem dL_law_865 : decode cL_law 865 = .ok (.iaload, 1) := by decide +kernel
theorem dL_law_866 : decode cL_law 866 = .ok (.aload_n 0, 1) := by decide +kernel
theorem dL_law_867 : decode cL_law 867 = .ok (.iload 4, 2) := by decide +kernel
theorem dL_law_869 : decode cL_law 869 = .ok (.iconst 3, 1) := by decide +kernel
theorem dL_law_870 : decode cL_law 870 = .ok (.iadd, 1) := by decide +kernel
theorem dL_law_871 : decode cL_law 871 = .ok (.iaload, 1) := by decide +kernel
theorem dL_law_872 : decode cL_law 872 = .ok (.aload_n 0, 1) := by decide +kernel
theorem dL_law_873 : decode cL_law 873 = .ok (.iload 4, 2) := by decide +kernel
theorem dL_law_875 : decode cL_law 875 = .ok (.iconst 4, 1) := by decide +kernel
theorem dL_law_876 : decode cL_law 876 = .ok (.iadd, 1) := by decide +kernel
theorem dL_law_877 : decode cL_law 877 = .ok (.iaload, 1) := by decide +kernel
theorem dL_law_878 : decode cL_law 878 = .ok (.aload_n 0, 1) := by decide +kernel
theorem dL_law_879 : decode cL_law 879 = .ok (.iload 4, 2) := by decide +kernel
theorem dL_law_881 : decode cL_law 881 = .ok (.iconst 5, 1) := by decide +kernel
theorem dL_law_882 : decode cL_law 882 = .ok (.iadd, 1) := by decide +kernel
theorem dL_law_883 : decode cL_law 883 = .ok (.iaload, 1) := by decide +kernel
theorem dL_law_884 : decode cL_law 884 = .ok (.invokevirtual 87, 3) := by decide +kernel
theorem dL_law_887 : decode cL_law 887 = .ok (.aload_n 2, 1) := by decide +kernel
theorem dL_law_888 : decode cL_law 888 = .ok (.aload_n 0, 1) := by decide +kernel
theorem dL_law_889 : decode cL_law 889 = .ok (.iload 4, 2) := by decide +kernel
theorem dL_law_891 : decode cL_law 891 = .ok (.iconst 1, 1) := by decide +kernel
theorem dL_law_892 : decode cL_law 892 = .ok (.iadd, 1) := by decide +kernel
theorem dL_law_893 : decode cL_law 893 = .ok (.iaload, 1) := by decide +kernel
theorem dL_law_894 : decode cL_law 894 = .ok (.aload_n 0, 1) := by decide +kernel
theorem dL_law_895 : decode cL_law 895 = .ok (.iload 4, 2) := by decide +kernel
theorem dL_law_897 : decode cL_law 897 = .ok (.iconst 2, 1) := by decide +kernel
theorem dL_law_898 : decode cL_law 898 = .ok (.iadd, 1) := by decide +kernel
theorem dL_law_899 : decode cL_law 899 = .ok (.iaload, 1) := by decide +kernel
theorem dL_law_900 : decode cL_law 900 = .ok (.aload_n 0, 1) := by decide +kernel
theorem dL_law_901 : decode cL_law 901 = .ok (.iload 4, 2) := by decide +kernel
theorem dL_law_903 : decode cL_law 903 = .ok (.iconst 3, 1) := by decide +kernel
theorem dL_law_904 : decode cL_law 904 = .ok (.iadd, 1) := by decide +kernel
theorem dL_law_905 : decode cL_law 905 = .ok (.iaload, 1) := by decide +kernel
theorem dL_law_906 : decode cL_law 906 = .ok (.aload_n 0, 1) := by decide +kernel
theorem dL_law_907 : decode cL_law 907 = .ok (.iload 4, 2) := by decide +kernel
theorem dL_law_909 : decode cL_law 909 = .ok (.iconst 4, 1) := by decide +kernel
theorem dL_law_910 : decode cL_law 910 = .ok (.iadd, 1) := by decide +kernel
theorem dL_law_911 : decode cL_law 911 = .ok (.iaload, 1) := by decide +kernel
theorem dL_law_912 : decode cL_law 912 = .ok (.aload_n 0, 1) := by decide +kernel
theorem dL_law_913 : decode cL_law 913 = .ok (.iload 4, 2) := by decide +kernel
theorem dL_law_915 : decode cL_law 915 = .ok (.iconst 5, 1) := by decide +kernel
theorem dL_law_916 : decode cL_law 916 = .ok (.iadd, 1) := by decide +kernel
theorem dL_law_917 : decode cL_law 917 = .ok (.iaload, 1) := by decide +kernel
theorem dL_law_918 : decode cL_law 918 = .ok (.invokevirtual 90, 3) := by decide +kernel
theorem dL_law_921 : decode cL_law 921 = .ok (.if_icmp .eq 319, 3) := by decide +kernel
theorem dL_law_924 : decode cL_law 924 = .ok (.iconst 0, 1) := by decide +kernel
theorem dL_law_925 : decode cL_law 925 = .ok (.ireturn, 1) := by decide +kernel
theorem dL_law_926 : decode cL_law 926 = .ok (.aload_n 1, 1) := by decide +kernel
theorem dL_law_927 : decode cL_law 927 = .ok (.aload_n 0, 1) := by decide +kernel
theorem dL_law_928 : decode cL_law 928 = .ok (.iload 4, 2) := by decide +kernel
theorem dL_law_930 : decode cL_law 930 = .ok (.iconst 1, 1) := by decide +kernel
theorem dL_law_931 : decode cL_law 931 = .ok (.iadd, 1) := by decide +kernel
theorem dL_law_932 : decode cL_law 932 = .ok (.iaload, 1) := by decide +kernel
theorem dL_law_933 : decode cL_law 933 = .ok (.invokevirtual 91, 3) := by decide +kernel
theorem dL_law_936 : decode cL_law 936 = .ok (.aload_n 2, 1) := by decide +kernel
theorem dL_law_937 : decode cL_law 937 = .ok (.aload_n 0, 1) := by decide +kernel
theorem dL_law_938 : decode cL_law 938 = .ok (.iload 4, 2) := by decide +kernel
theorem dL_law_940 : decode cL_law 940 = .ok (.iconst 1, 1) := by decide +kernel
theorem dL_law_941 : decode cL_law 941 = .ok (.iadd, 1) := by decide +kernel
theorem dL_law_942 : decode cL_law 942 = .ok (.iaload, 1) := by decide +kernel
theorem dL_law_943 : decode cL_law 943 = .ok (.invokevirtual 94, 3) := by decide +kernel
theorem dL_law_946 : decode cL_law 946 = .ok (.if_icmp .eq 294, 3) := by decide +kernel
theorem dL_law_949 : decode cL_law 949 = .ok (.iconst 0, 1) := by decide +kernel
theorem dL_law_950 : decode cL_law 950 = .ok (.ireturn, 1) := by decide +kernel
theorem dL_law_951 : decode cL_law 951 = .ok (.aload_n 1, 1) := by decide +kernel
theorem dL_law_952 : decode cL_law 952 = .ok (.aload_n 0, 1) := by decide +kernel
theorem dL_law_953 : decode cL_law 953 = .ok (.iload 4, 2) := by decide +kernel
theorem dL_law_955 : decode cL_law 955 = .ok (.iconst 1, 1) := by decide +kernel
theorem dL_law_956 : decode cL_law 956 = .ok (.iadd, 1) := by decide +kernel
theorem dL_law_957 : decode cL_law 957 = .ok (.iaload, 1) := by decide +kernel
theorem dL_law_958 : decode cL_law 958 = .ok (.aload_n 0, 1) := by decide +kernel
theorem dL_law_959 : decode cL_law 959 = .ok (.iload 4, 2) := by decide +kernel
theorem dL_law_961 : decode cL_law 961 = .ok (.iconst 2, 1) := by decide +kernel
theorem dL_law_962 : decode cL_law 962 = .ok (.iadd, 1) := by decide +kernel
theorem dL_law_963 : decode cL_law 963 = .ok (.iaload, 1) := by decide +kernel
theorem dL_law_964 : decode cL_law 964 = .ok (.aload_n 0, 1) := by decide +kernel
theorem dL_law_965 : decode cL_law 965 = .ok (.iload 4, 2) := by decide +kernel
theorem dL_law_967 : decode cL_law 967 = .ok (.iconst 3, 1) := by decide +kernel
theorem dL_law_968 : decode cL_law 968 = .ok (.iadd, 1) := by decide +kernel
theorem dL_law_969 : decode cL_law 969 = .ok (.iaload, 1) := by decide +kernel
theorem dL_law_970 : decode cL_law 970 = .ok (.invokevirtual 95, 3) := by decide +kernel
theorem dL_law_973 : decode cL_law 973 = .ok (.aload_n 2, 1) := by decide +kernel
theorem dL_law_974 : decode cL_law 974 = .ok (.aload_n 0, 1) := by decide +kernel
theorem dL_law_975 : decode cL_law 975 = .ok (.iload 4, 2) := by decide +kernel
theorem dL_law_977 : decode cL_law 977 = .ok (.iconst 1, 1) := by decide +kernel
theorem dL_law_978 : decode cL_law 978 = .ok (.iadd, 1) := by decide +kernel
theorem dL_law_979 : decode cL_law 979 = .ok (.iaload, 1) := by decide +kernel
theorem dL_law_980 : decode cL_law 980 = .ok (.aload_n 0, 1) := by decide +kernel
theorem dL_law_981 : decode cL_law 981 = .ok (.iload 4, 2) := by decide +kernel
theorem dL_law_983 : decode cL_law 983 = .ok (.iconst 2, 1) := by decide +kernel
theorem dL_law_984 : decode cL_law 984 = .ok (.iadd, 1) := by decide +kernel
theorem dL_law_985 : decode cL_law 985 = .ok (.iaload, 1) := by decide +kernel
theorem dL_law_986 : decode cL_law 986 = .ok (.aload_n 0, 1) := by decide +kernel
theorem dL_law_987 : decode cL_law 987 = .ok (.iload 4, 2) := by decide +kernel
theorem dL_law_989 : decode cL_law 989 = .ok (.iconst 3, 1) := by decide +kernel
theorem dL_law_990 : decode cL_law 990 = .ok (.iadd, 1) := by decide +kernel
theorem dL_law_991 : decode cL_law 991 = .ok (.iaload, 1) := by decide +kernel
theorem dL_law_992 : decode cL_law 992 = .ok (.invokevirtual 98, 3) := by decide +kernel
theorem dL_law_995 : decode cL_law 995 = .ok (.if_icmp .eq 245, 3) := by decide +kernel
theorem dL_law_998 : decode cL_law 998 = .ok (.iconst 0, 1) := by decide +kernel
theorem dL_law_999 : decode cL_law 999 = .ok (.ireturn, 1) := by decide +kernel
theorem dL_law_1000 : decode cL_law 1000 = .ok (.aload_n 1, 1) := by decide +kernel
theorem dL_law_1001 : decode cL_law 1001 = .ok (.invokevirtual 99, 3) := by decide +kernel
theorem dL_law_1004 : decode cL_law 1004 = .ok (.aload_n 2, 1) := by decide +kernel
theorem dL_law_1005 : decode cL_law 1005 = .ok (.invokevirtual 102, 3) := by decide +kernel
theorem dL_law_1008 : decode cL_law 1008 = .ok (.if_icmp .eq 232, 3) := by decide +kernel
theorem dL_law_1011 : decode cL_law 1011 = .ok (.iconst 0, 1) := by decide +kernel
theorem dL_law_1012 : decode cL_law 1012 = .ok (.ireturn, 1) := by decide +kernel
theorem dL_law_1013 : decode cL_law 1013 = .ok (.aload_n 1, 1) := by decide +kernel
theorem dL_law_1014 : decode cL_law 1014 = .ok (.aload_n 0, 1) := by decide +kernel
theorem dL_law_1015 : decode cL_law 1015 = .ok (.iload 4, 2) := by decide +kernel
theorem dL_law_1017 : decode cL_law 1017 = .ok (.iconst 1, 1) := by decide +kernel
theorem dL_law_1018 : decode cL_law 1018 = .ok (.iadd, 1) := by decide +kernel
theorem dL_law_1019 : decode cL_law 1019 = .ok (.iaload, 1) := by decide +kernel
theorem dL_law_1020 : decode cL_law 1020 = .ok (.aload_n 0, 1) := by decide +kernel
theorem dL_law_1021 : decode cL_law 1021 = .ok (.iload 4, 2) := by decide +kernel
theorem dL_law_1023 : decode cL_law 1023 = .ok (.iconst 2, 1) := by decide +kernel
theorem dL_law_1024 : decode cL_law 1024 = .ok (.iadd, 1) := by decide +kernel
theorem dL_law_1025 : decode cL_law 1025 = .ok (.iaload, 1) := by decide +kernel
theorem dL_law_1026 : decode cL_law 1026 = .ok (.aload_n 0, 1) := by decide +kernel
theorem dL_law_1027 : decode cL_law 1027 = .ok (.iload 4, 2) := by decide +kernel
theorem dL_law_1029 : decode cL_law 1029 = .ok (.iconst 3, 1) := by decide +kernel
theorem dL_law_1030 : decode cL_law 1030 = .ok (.iadd, 1) := by decide +kernel
theorem dL_law_1031 : decode cL_law 1031 = .ok (.iaload, 1) := by decide +kernel
theorem dL_law_1032 : decode cL_law 1032 = .ok (.aload_n 0, 1) := by decide +kernel
theorem dL_law_1033 : decode cL_law 1033 = .ok (.iload 4, 2) := by decide +kernel
theorem dL_law_1035 : decode cL_law 1035 = .ok (.iconst 4, 1) := by decide +kernel
theorem dL_law_1036 : decode cL_law 1036 = .ok (.iadd, 1) := by decide +kernel
theorem dL_law_1037 : decode cL_law 1037 = .ok (.iaload, 1) := by decide +kernel
theorem dL_law_1038 : decode cL_law 1038 = .ok (.invokevirtual 103, 3) := by decide +kernel
theorem dL_law_1041 : decode cL_law 1041 = .ok (.aload_n 2, 1) := by decide +kernel
theorem dL_law_1042 : decode cL_law 1042 = .ok (.aload_n 0, 1) := by decide +kernel
theorem dL_law_1043 : decode cL_law 1043 = .ok (.iload 4, 2) := by decide +kernel
theorem dL_law_1045 : decode cL_law 1045 = .ok (.iconst 1, 1) := by decide +kernel
theorem dL_law_1046 : decode cL_law 1046 = .ok (.iadd, 1) := by decide +kernel
theorem dL_law_1047 : decode cL_law 1047 = .ok (.iaload, 1) := by decide +kernel
theorem dL_law_1048 : decode cL_law 1048 = .ok (.aload_n 0, 1) := by decide +kernel
theorem dL_law_1049 : decode cL_law 1049 = .ok (.iload 4, 2) := by decide +kernel
theorem dL_law_1051 : decode cL_law 1051 = .ok (.iconst 2, 1) := by decide +kernel
theorem dL_law_1052 : decode cL_law 1052 = .ok (.iadd, 1) := by decide +kernel
theorem dL_law_1053 : decode cL_law 1053 = .ok (.iaload, 1) := by decide +kernel
theorem dL_law_1054 : decode cL_law 1054 = .ok (.aload_n 0, 1) := by decide +kernel
theorem dL_law_1055 : decode cL_law 1055 = .ok (.iload 4, 2) := by decide +kernel
theorem dL_law_1057 : decode cL_law 1057 = .ok (.iconst 3, 1) := by decide +kernel
theorem dL_law_1058 : decode cL_law 1058 = .ok (.iadd, 1) := by decide +kernel
theorem dL_law_1059 : decode cL_law 1059 = .ok (.iaload, 1) := by decide +kernel
theorem dL_law_1060 : decode cL_law 1060 = .ok (.aload_n 0, 1) := by decide +kernel
theorem dL_law_1061 : decode cL_law 1061 = .ok (.iload 4, 2) := by decide +kernel
theorem dL_law_1063 : decode cL_law 1063 = .ok (.iconst 4, 1) := by decide +kernel
theorem dL_law_1064 : decode cL_law 1064 = .ok (.iadd, 1) := by decide +kernel
theorem dL_law_1065 : decode cL_law 1065 = .ok (.iaload, 1) := by decide +kernel
theorem dL_law_1066 : decode cL_law 1066 = .ok (.invokevirtual 106, 3) := by decide +kernel
theorem dL_law_1069 : decode cL_law 1069 = .ok (.if_icmp .eq 171, 3) := by decide +kernel
theorem dL_law_1072 : decode cL_law 1072 = .ok (.iconst 0, 1) := by decide +kernel
theorem dL_law_1073 : decode cL_law 1073 = .ok (.ireturn, 1) := by decide +kernel
theorem dL_law_1074 : decode cL_law 1074 = .ok (.aload_n 1, 1) := by decide +kernel
theorem dL_law_1075 : decode cL_law 1075 = .ok (.aload_n 0, 1) := by decide +kernel
theorem dL_law_1076 : decode cL_law 1076 = .ok (.iload 4, 2) := by decide +kernel
theorem dL_law_1078 : decode cL_law 1078 = .ok (.iconst 1, 1) := by decide +kernel
theorem dL_law_1079 : decode cL_law 1079 = .ok (.iadd, 1) := by decide +kernel
theorem dL_law_1080 : decode cL_law 1080 = .ok (.iaload, 1) := by decide +kernel
theorem dL_law_1081 : decode cL_law 1081 = .ok (.aload_n 0, 1) := by decide +kernel
theorem dL_law_1082 : decode cL_law 1082 = .ok (.iload 4, 2) := by decide +kernel
theorem dL_law_1084 : decode cL_law 1084 = .ok (.iconst 2, 1) := by decide +kernel
theorem dL_law_1085 : decode cL_law 1085 = .ok (.iadd, 1) := by decide +kernel
theorem dL_law_1086 : decode cL_law 1086 = .ok (.iaload, 1) := by decide +kernel
theorem dL_law_1087 : decode cL_law 1087 = .ok (.aload_n 3, 1) := by decide +kernel
theorem dL_law_1088 : decode cL_law 1088 = .ok (.invokestatic 107, 3) := by decide +kernel
theorem dL_law_1091 : decode cL_law 1091 = .ok (.istore 5, 2) := by decide +kernel
theorem dL_law_1093 : decode cL_law 1093 = .ok (.aload_n 2, 1) := by decide +kernel
theorem dL_law_1094 : decode cL_law 1094 = .ok (.aload_n 0, 1) := by decide +kernel
theorem dL_law_1095 : decode cL_law 1095 = .ok (.iload 4, 2) := by decide +kernel
theorem dL_law_1097 : decode cL_law 1097 = .ok (.iconst 1, 1) := by decide +kernel
theorem dL_law_1098 : decode cL_law 1098 = .ok (.iadd, 1) := by decide +kernel
theorem dL_law_1099 : decode cL_law 1099 = .ok (.iaload, 1) := by decide +kernel
theorem dL_law_1100 : decode cL_law 1100 = .ok (.aload_n 0, 1) := by decide +kernel
theorem dL_law_1101 : decode cL_law 1101 = .ok (.iload 4, 2) := by decide +kernel
theorem dL_law_1103 : decode cL_law 1103 = .ok (.iconst 2, 1) := by decide +kernel
theorem dL_law_1104 : decode cL_law 1104 = .ok (.iadd, 1) := by decide +kernel
theorem dL_law_1105 : decode cL_law 1105 = .ok (.iaload, 1) := by decide +kernel
theorem dL_law_1106 : decode cL_law 1106 = .ok (.invokevirtual 112, 3) := by decide +kernel
theorem dL_law_1109 : decode cL_law 1109 = .ok (.lstore 6, 2) := by decide +kernel
theorem dL_law_1111 : decode cL_law 1111 = .ok (.aload_n 2, 1) := by decide +kernel
theorem dL_law_1112 : decode cL_law 1112 = .ok (.invokevirtual 113, 3) := by decide +kernel
theorem dL_law_1115 : decode cL_law 1115 = .ok (.iload 5, 2) := by decide +kernel
theorem dL_law_1117 : decode cL_law 1117 = .ok (.if_icmp .eq 5, 3) := by decide +kernel
theorem dL_law_1120 : decode cL_law 1120 = .ok (.iconst 0, 1) := by decide +kernel
theorem dL_law_1121 : decode cL_law 1121 = .ok (.ireturn, 1) := by decide +kernel
theorem dL_law_1122 : decode cL_law 1122 = .ok (.iload 5, 2) := by decide +kernel
theorem dL_law_1124 : decode cL_law 1124 = .ok (.ifCond .ne 14, 3) := by decide +kernel
theorem dL_law_1127 : decode cL_law 1127 = .ok (.aload_n 3, 1) := by decide +kernel
theorem dL_law_1128 : decode cL_law 1128 = .ok (.iconst 0, 1) := by decide +kernel
theorem dL_law_1129 : decode cL_law 1129 = .ok (.laload, 1) := by decide +kernel
theorem dL_law_1130 : decode cL_law 1130 = .ok (.lload 6, 2) := by decide +kernel
theorem dL_law_1132 : decode cL_law 1132 = .ok (.lcmp, 1) := by decide +kernel
theorem dL_law_1133 : decode cL_law 1133 = .ok (.ifCond .eq 5, 3) := by decide +kernel
theorem dL_law_1136 : decode cL_law 1136 = .ok (.iconst 0, 1) := by decide +kernel
theorem dL_law_1137 : decode cL_law 1137 = .ok (.ireturn, 1) := by decide +kernel
theorem dL_law_1138 : decode cL_law 1138 = .ok (.goto 102, 3) := by decide +kernel
theorem dL_law_1141 : decode cL_law 1141 = .ok (.aload_n 1, 1) := by decide +kernel
theorem dL_law_1142 : decode cL_law 1142 = .ok (.aload_n 0, 1) := by decide +kernel
theorem dL_law_1143 : decode cL_law 1143 = .ok (.iload 4, 2) := by decide +kernel
theorem dL_law_1145 : decode cL_law 1145 = .ok (.iconst 1, 1) := by decide +kernel
theorem dL_law_1146 : decode cL_law 1146 = .ok (.iadd, 1) := by decide +kernel
theorem dL_law_1147 : decode cL_law 1147 = .ok (.iaload, 1) := by decide +kernel
theorem dL_law_1148 : decode cL_law 1148 = .ok (.aload_n 0, 1) := by decide +kernel
theorem dL_law_1149 : decode cL_law 1149 = .ok (.iload 4, 2) := by decide +kernel
theorem dL_law_1151 : decode cL_law 1151 = .ok (.iconst 2, 1) := by decide +kernel
theorem dL_law_1152 : decode cL_law 1152 = .ok (.iadd, 1) := by decide +kernel
theorem dL_law_1153 : decode cL_law 1153 = .ok (.iaload, 1) := by decide +kernel
theorem dL_law_1154 : decode cL_law 1154 = .ok (.invokevirtual 116, 3) := by decide +kernel
theorem dL_law_1157 : decode cL_law 1157 = .ok (.aload_n 2, 1) := by decide +kernel
theorem dL_law_1158 : decode cL_law 1158 = .ok (.aload_n 0, 1) := by decide +kernel
theorem dL_law_1159 : decode cL_law 1159 = .ok (.iload 4, 2) := by decide +kernel
theorem dL_law_1161 : decode cL_law 1161 = .ok (.iconst 1, 1) := by decide +kernel
theorem dL_law_1162 : decode cL_law 1162 = .ok (.iadd, 1) := by decide +kernel
theorem dL_law_1163 : decode cL_law 1163 = .ok (.iaload, 1) := by decide +kernel
theorem dL_law_1164 : decode cL_law 1164 = .ok (.aload_n 0, 1) := by decide +kernel
theorem dL_law_1165 : decode cL_law 1165 = .ok (.iload 4, 2) := by decide +kernel
theorem dL_law_1167 : decode cL_law 1167 = .ok (.iconst 2, 1) := by decide +kernel
theorem dL_law_1168 : decode cL_law 1168 = .ok (.iadd, 1) := by decide +kernel
theorem dL_law_1169 : decode cL_law 1169 = .ok (.iaload, 1) := by decide +kernel
theorem dL_law_1170 : decode cL_law 1170 = .ok (.invokevirtual 119, 3) := by decide +kernel
theorem dL_law_1173 : decode cL_law 1173 = .ok (.if_icmp .eq 67, 3) := by decide +kernel
theorem dL_law_1176 : decode cL_law 1176 = .ok (.iconst 0, 1) := by decide +kernel
theorem dL_law_1177 : decode cL_law 1177 = .ok (.ireturn, 1) := by decide +kernel
theorem dL_law_1178 : decode cL_law 1178 = .ok (.aload_n 1, 1) := by decide +kernel
theorem dL_law_1179 : decode cL_law 1179 = .ok (.aload_n 0, 1) := by decide +kernel
theorem dL_law_1180 : decode cL_law 1180 = .ok (.iload 4, 2) := by decide +kernel
theorem dL_law_1182 : decode cL_law 1182 = .ok (.iconst 1, 1) := by decide +kernel
theorem dL_law_1183 : decode cL_law 1183 = .ok (.iadd, 1) := by decide +kernel
theorem dL_law_1184 : decode cL_law 1184 = .ok (.iaload, 1) := by decide +kernel
theorem dL_law_1185 : decode cL_law 1185 = .ok (.aload_n 0, 1) := by decide +kernel
theorem dL_law_1186 : decode cL_law 1186 = .ok (.iload 4, 2) := by decide +kernel
theorem dL_law_1188 : decode cL_law 1188 = .ok (.iconst 2, 1) := by decide +kernel
theorem dL_law_1189 : decode cL_law 1189 = .ok (.iadd, 1) := by decide +kernel
theorem dL_law_1190 : decode cL_law 1190 = .ok (.iaload, 1) := by decide +kernel
theorem dL_law_1191 : decode cL_law 1191 = .ok (.invokevirtual 120, 3) := by decide +kernel
theorem dL_law_1194 : decode cL_law 1194 = .ok (.aload_n 2, 1) := by decide +kernel
theorem dL_law_1195 : decode cL_law 1195 = .ok (.aload_n 0, 1) := by decide +kernel
theorem dL_law_1196 : decode cL_law 1196 = .ok (.iload 4, 2) := by decide +kernel
theorem dL_law_1198 : decode cL_law 1198 = .ok (.iconst 1, 1) := by decide +kernel
theorem dL_law_1199 : decode cL_law 1199 = .ok (.iadd, 1) := by decide +kernel
theorem dL_law_1200 : decode cL_law 1200 = .ok (.iaload, 1) := by decide +kernel
theorem dL_law_1201 : decode cL_law 1201 = .ok (.aload_n 0, 1) := by decide +kernel
theorem dL_law_1202 : decode cL_law 1202 = .ok (.iload 4, 2) := by decide +kernel
theorem dL_law_1204 : decode cL_law 1204 = .ok (.iconst 2, 1) := by decide +kernel
theorem dL_law_1205 : decode cL_law 1205 = .ok (.iadd, 1) := by decide +kernel
theorem dL_law_1206 : decode cL_law 1206 = .ok (.iaload, 1) := by decide +kernel
theorem dL_law_1207 : decode cL_law 1207 = .ok (.invokevirtual 123, 3) := by decide +kernel
theorem dL_law_1210 : decode cL_law 1210 = .ok (.if_icmp .eq 30, 3) := by decide +kernel
theorem dL_law_1213 : decode cL_law 1213 = .ok (.iconst 0, 1) := by decide +kernel
theorem dL_law_1214 : decode cL_law 1214 = .ok (.ireturn, 1) := by decide +kernel
theorem dL_law_1215 : decode cL_law 1215 = .ok (.aload_n 1, 1) := by decide +kernel
theorem dL_law_1216 : decode cL_law 1216 = .ok (.aload_n 0, 1) := by decide +kernel
theorem dL_law_1217 : decode cL_law 1217 = .ok (.iload 4, 2) := by decide +kernel
theorem dL_law_1219 : decode cL_law 1219 = .ok (.iconst 1, 1) := by decide +kernel
theorem dL_law_1220 : decode cL_law 1220 = .ok (.iadd, 1) := by decide +kernel
theorem dL_law_1221 : decode cL_law 1221 = .ok (.iaload, 1) := by decide +kernel
theorem dL_law_1222 : decode cL_law 1222 = .ok (.invokevirtual 124, 3) := by decide +kernel
theorem dL_law_1225 : decode cL_law 1225 = .ok (.aload_n 2, 1) := by decide +kernel
theorem dL_law_1226 : decode cL_law 1226 = .ok (.aload_n 0, 1) := by decide +kernel
theorem dL_law_1227 : decode cL_law 1227 = .ok (.iload 4, 2) := by decide +kernel
theorem dL_law_1229 : decode cL_law 1229 = .ok (.iconst 1, 1) := by decide +kernel
theorem dL_law_1230 : decode cL_law 1230 = .ok (.iadd, 1) := by decide +kernel
theorem dL_law_1231 : decode cL_law 1231 = .ok (.iaload, 1) := by decide +kernel
theorem dL_law_1232 : decode cL_law 1232 = .ok (.invokevirtual 127, 3) := by decide +kernel
theorem dL_law_1235 : decode cL_law 1235 = .ok (.if_icmp .eq 5, 3) := by decide +kernel
theorem dL_law_1238 : decode cL_law 1238 = .ok (.iconst 0, 1) := by decide +kernel
theorem dL_law_1239 : decode cL_law 1239 = .ok (.ireturn, 1) := by decide +kernel
theorem dL_law_1240 : decode cL_law 1240 = .ok (.iinc 4 7, 3) := by decide +kernel
theorem dL_law_1243 : decode cL_law 1243 = .ok (.goto (-1220), 3) := by decide +kernel
theorem dL_law_1246 : decode cL_law 1246 = .ok (.iconst 1, 1) := by decide +kernel
theorem dL_law_1247 : decode cL_law 1247 = .ok (.ireturn, 1) := by decide +kernel
