theorem eX12_slh_0 : vD cX12_slh 0 (.iload_n 1) 1 1 := ⟨by decide +kernel, rfl⟩
theorem eX12_slh_1 : vD cX12_slh 1 (.bipush 6) 2 3 := ⟨by decide +kernel, rfl⟩
theorem eX12_slh_3 : vD cX12_slh 3 .irem 1 4 := ⟨by decide +kernel, rfl⟩
theorem eX12_slh_4 : vD cX12_slh 4 (.istore_n 2) 1 5 := ⟨by decide +kernel, rfl⟩
theorem eX12_slh_5 : vD cX12_slh 5 (.aload_n 0) 1 6 := ⟨by decide +kernel, rfl⟩
theorem eX12_slh_6 : vD cX12_slh 6 (.iload_n 2) 1 7 := ⟨by decide +kernel, rfl⟩
theorem eX12_slh_7 : vD cX12_slh 7 (.iconst 2) 1 8 := ⟨by decide +kernel, rfl⟩
theorem eX12_slh_8 : vD cX12_slh 8 (.if_icmp .ge 8) 3 11 := ⟨by decide +kernel, rfl⟩
theorem eX12_slh_11 : vD cX12_slh 11 (.bipush 16) 2 13 := ⟨by decide +kernel, rfl⟩
theorem eX12_slh_13 : vD cX12_slh 13 (.goto 15) 3 16 := ⟨by decide +kernel, rfl⟩
theorem eX12_slh_16 : vD cX12_slh 16 (.iload_n 2) 1 17 := ⟨by decide +kernel, rfl⟩
theorem eX12_slh_17 : vD cX12_slh 17 (.iconst 4) 1 18 := ⟨by decide +kernel, rfl⟩
theorem eX12_slh_18 : vD cX12_slh 18 (.if_icmp .ge 8) 3 21 := ⟨by decide +kernel, rfl⟩
theorem eX12_slh_21 : vD cX12_slh 21 (.bipush 24) 2 23 := ⟨by decide +kernel, rfl⟩
theorem eX12_slh_23 : vD cX12_slh 23 (.goto 5) 3 26 := ⟨by decide +kernel, rfl⟩
theorem eX12_slh_26 : vD cX12_slh 26 (.bipush 32) 2 28 := ⟨by decide +kernel, rfl⟩
theorem eX12_slh_28 : vD cX12_slh 28 (.putfield 243) 3 31 := ⟨by decide +kernel, rfl⟩
theorem eX12_slh_31 : vD cX12_slh 31 (.aload_n 0) 1 32 := ⟨by decide +kernel, rfl⟩
theorem eX12_slh_32 : vD cX12_slh 32 (.iload_n 2) 1 33 := ⟨by decide +kernel, rfl⟩
theorem eX12_slh_33 : vD cX12_slh 33 (.ifCond .eq 8) 3 36 := ⟨by decide +kernel, rfl⟩
theorem eX12_slh_36 : vD cX12_slh 36 (.iload_n 2) 1 37 := ⟨by decide +kernel, rfl⟩
theorem eX12_slh_37 : vD cX12_slh 37 (.iconst 2) 1 38 := ⟨by decide +kernel, rfl⟩
theorem eX12_slh_38 : vD cX12_slh 38 (.if_icmp .ne 8) 3 41 := ⟨by decide +kernel, rfl⟩
theorem eX12_slh_41 : vD cX12_slh 41 (.bipush 63) 2 43 := ⟨by decide +kernel, rfl⟩
theorem eX12_slh_43 : vD cX12_slh 43 (.goto 25) 3 46 := ⟨by decide +kernel, rfl⟩
theorem eX12_slh_46 : vD cX12_slh 46 (.iload_n 2) 1 47 := ⟨by decide +kernel, rfl⟩
theorem eX12_slh_47 : vD cX12_slh 47 (.iconst 4) 1 48 := ⟨by decide +kernel, rfl⟩
theorem eX12_slh_48 : vD cX12_slh 48 (.if_icmp .ne 8) 3 51 := ⟨by decide +kernel, rfl⟩
theorem eX12_slh_51 : vD cX12_slh 51 (.bipush 64) 2 53 := ⟨by decide +kernel, rfl⟩
theorem eX12_slh_53 : vD cX12_slh 53 (.goto 15) 3 56 := ⟨by decide +kernel, rfl⟩
theorem eX12_slh_56 : vD cX12_slh 56 (.iload_n 2) 1 57 := ⟨by decide +kernel, rfl⟩
theorem eX12_slh_57 : vD cX12_slh 57 (.iconst 5) 1 58 := ⟨by decide +kernel, rfl⟩
theorem eX12_slh_58 : vD cX12_slh 58 (.if_icmp .ne 8) 3 61 := ⟨by decide +kernel, rfl⟩
theorem eX12_slh_61 : vD cX12_slh 61 (.bipush 68) 2 63 := ⟨by decide +kernel, rfl⟩
theorem eX12_slh_63 : vD cX12_slh 63 (.goto 5) 3 66 := ⟨by decide +kernel, rfl⟩
theorem eX12_slh_66 : vD cX12_slh 66 (.bipush 66) 2 68 := ⟨by decide +kernel, rfl⟩
theorem eX12_slh_68 : vD cX12_slh 68 (.putfield 246) 3 71 := ⟨by decide +kernel, rfl⟩
theorem eX12_slh_71 : vD cX12_slh 71 (.aload_n 0) 1 72 := ⟨by decide +kernel, rfl⟩
theorem eX12_slh_72 : vD cX12_slh 72 (.iload_n 2) 1 73 := ⟨by decide +kernel, rfl⟩
theorem eX12_slh_73 : vD cX12_slh 73 (.ifCond .eq 8) 3 76 := ⟨by decide +kernel, rfl⟩
theorem eX12_slh_76 : vD cX12_slh 76 (.iload_n 2) 1 77 := ⟨by decide +kernel, rfl⟩
theorem eX12_slh_77 : vD cX12_slh 77 (.iconst 2) 1 78 := ⟨by decide +kernel, rfl⟩
theorem eX12_slh_78 : vD cX12_slh 78 (.if_icmp .ne 8) 3 81 := ⟨by decide +kernel, rfl⟩
theorem eX12_slh_81 : vD cX12_slh 81 (.bipush 7) 2 83 := ⟨by decide +kernel, rfl⟩
theorem eX12_slh_83 : vD cX12_slh 83 (.goto 25) 3 86 := ⟨by decide +kernel, rfl⟩
theorem eX12_slh_86 : vD cX12_slh 86 (.iload_n 2) 1 87 := ⟨by decide +kernel, rfl⟩
theorem eX12_slh_87 : vD cX12_slh 87 (.iconst 4) 1 88 := ⟨by decide +kernel, rfl⟩
theorem eX12_slh_88 : vD cX12_slh 88 (.if_icmp .ne 8) 3 91 := ⟨by decide +kernel, rfl⟩
theorem eX12_slh_91 : vD cX12_slh 91 (.bipush 8) 2 93 := ⟨by decide +kernel, rfl⟩
theorem eX12_slh_93 : vD cX12_slh 93 (.goto 15) 3 96 := ⟨by decide +kernel, rfl⟩
theorem eX12_slh_96 : vD cX12_slh 96 (.iload_n 2) 1 97 := ⟨by decide +kernel, rfl⟩
theorem eX12_slh_97 : vD cX12_slh 97 (.iconst 5) 1 98 := ⟨by decide +kernel, rfl⟩
theorem eX12_slh_98 : vD cX12_slh 98 (.if_icmp .ne 8) 3 101 := ⟨by decide +kernel, rfl⟩
theorem eX12_slh_101 : vD cX12_slh 101 (.bipush 17) 2 103 := ⟨by decide +kernel, rfl⟩
theorem eX12_slh_103 : vD cX12_slh 103 (.goto 5) 3 106 := ⟨by decide +kernel, rfl⟩
theorem eX12_slh_106 : vD cX12_slh 106 (.bipush 22) 2 108 := ⟨by decide +kernel, rfl⟩
theorem eX12_slh_108 : vD cX12_slh 108 (.putfield 249) 3 111 := ⟨by decide +kernel, rfl⟩
theorem eX12_slh_111 : vD cX12_slh 111 (.aload_n 0) 1 112 := ⟨by decide +kernel, rfl⟩
theorem eX12_slh_112 : vD cX12_slh 112 (.iload_n 2) 1 113 := ⟨by decide +kernel, rfl⟩
theorem eX12_slh_113 : vD cX12_slh 113 (.ifCond .ne 8) 3 116 := ⟨by decide +kernel, rfl⟩
theorem eX12_slh_116 : vD cX12_slh 116 (.bipush 12) 2 118 := ⟨by decide +kernel, rfl⟩
theorem eX12_slh_118 : vD cX12_slh 118 (.goto 40) 3 121 := ⟨by decide +kernel, rfl⟩
theorem eX12_slh_121 : vD cX12_slh 121 (.iload_n 2) 1 122 := ⟨by decide +kernel, rfl⟩
theorem eX12_slh_122 : vD cX12_slh 122 (.iconst 1) 1 123 := ⟨by decide +kernel, rfl⟩
theorem eX12_slh_123 : vD cX12_slh 123 (.if_icmp .ne 8) 3 126 := ⟨by decide +kernel, rfl⟩
theorem eX12_slh_126 : vD cX12_slh 126 (.bipush 6) 2 128 := ⟨by decide +kernel, rfl⟩
theorem eX12_slh_128 : vD cX12_slh 128 (.goto 30) 3 131 := ⟨by decide +kernel, rfl⟩
theorem eX12_slh_131 : vD cX12_slh 131 (.iload_n 2) 1 132 := ⟨by decide +kernel, rfl⟩
theorem eX12_slh_132 : vD cX12_slh 132 (.iconst 2) 1 133 := ⟨by decide +kernel, rfl⟩
theorem eX12_slh_133 : vD cX12_slh 133 (.if_icmp .eq 8) 3 136 := ⟨by decide +kernel, rfl⟩
theorem eX12_slh_136 : vD cX12_slh 136 (.iload_n 2) 1 137 := ⟨by decide +kernel, rfl⟩
theorem eX12_slh_137 : vD cX12_slh 137 (.iconst 4) 1 138 := ⟨by decide +kernel, rfl⟩
theorem eX12_slh_138 : vD cX12_slh 138 (.if_icmp .ne 8) 3 141 := ⟨by decide +kernel, rfl⟩
theorem eX12_slh_141 : vD cX12_slh 141 (.bipush 14) 2 143 := ⟨by decide +kernel, rfl⟩
theorem eX12_slh_143 : vD cX12_slh 143 (.goto 15) 3 146 := ⟨by decide +kernel, rfl⟩
theorem eX12_slh_146 : vD cX12_slh 146 (.iload_n 2) 1 147 := ⟨by decide +kernel, rfl⟩
theorem eX12_slh_147 : vD cX12_slh 147 (.iconst 3) 1 148 := ⟨by decide +kernel, rfl⟩
theorem eX12_slh_148 : vD cX12_slh 148 (.if_icmp .ne 8) 3 151 := ⟨by decide +kernel, rfl⟩
theorem eX12_slh_151 : vD cX12_slh 151 (.bipush 8) 2 153 := ⟨by decide +kernel, rfl⟩
theorem eX12_slh_153 : vD cX12_slh 153 (.goto 5) 3 156 := ⟨by decide +kernel, rfl⟩
theorem eX12_slh_156 : vD cX12_slh 156 (.bipush 9) 2 158 := ⟨by decide +kernel, rfl⟩
theorem eX12_slh_158 : vD cX12_slh 158 (.putfield 252) 3 161 := ⟨by decide +kernel, rfl⟩
theorem eX12_slh_161 : vD cX12_slh 161 (.aload_n 0) 1 162 := ⟨by decide +kernel, rfl⟩
theorem eX12_slh_162 : vD cX12_slh 162 (.iload_n 2) 1 163 := ⟨by decide +kernel, rfl⟩
theorem eX12_slh_163 : vD cX12_slh 163 (.ifCond .ne 8) 3 166 := ⟨by decide +kernel, rfl⟩
theorem eX12_slh_166 : vD cX12_slh 166 (.bipush 14) 2 168 := ⟨by decide +kernel, rfl⟩
theorem eX12_slh_168 : vD cX12_slh 168 (.goto 40) 3 171 := ⟨by decide +kernel, rfl⟩
theorem eX12_slh_171 : vD cX12_slh 171 (.iload_n 2) 1 172 := ⟨by decide +kernel, rfl⟩
theorem eX12_slh_172 : vD cX12_slh 172 (.iconst 1) 1 173 := ⟨by decide +kernel, rfl⟩
theorem eX12_slh_173 : vD cX12_slh 173 (.if_icmp .eq 8) 3 176 := ⟨by decide +kernel, rfl⟩
theorem eX12_slh_176 : vD cX12_slh 176 (.iload_n 2) 1 177 := ⟨by decide +kernel, rfl⟩
theorem eX12_slh_177 : vD cX12_slh 177 (.iconst 3) 1 178 := ⟨by decide +kernel, rfl⟩
theorem eX12_slh_178 : vD cX12_slh 178 (.if_icmp .ne 8) 3 181 := ⟨by decide +kernel, rfl⟩
theorem eX12_slh_181 : vD cX12_slh 181 (.bipush 33) 2 183 := ⟨by decide +kernel, rfl⟩
theorem eX12_slh_183 : vD cX12_slh 183 (.goto 25) 3 186 := ⟨by decide +kernel, rfl⟩
theorem eX12_slh_186 : vD cX12_slh 186 (.iload_n 2) 1 187 := ⟨by decide +kernel, rfl⟩
theorem eX12_slh_187 : vD cX12_slh 187 (.iconst 2) 1 188 := ⟨by decide +kernel, rfl⟩
theorem eX12_slh_188 : vD cX12_slh 188 (.if_icmp .ne 8) 3 191 := ⟨by decide +kernel, rfl⟩
theorem eX12_slh_191 : vD cX12_slh 191 (.bipush 17) 2 193 := ⟨by decide +kernel, rfl⟩
theorem eX12_slh_193 : vD cX12_slh 193 (.goto 15) 3 196 := ⟨by decide +kernel, rfl⟩
theorem eX12_slh_196 : vD cX12_slh 196 (.iload_n 2) 1 197 := ⟨by decide +kernel, rfl⟩
theorem eX12_slh_197 : vD cX12_slh 197 (.iconst 4) 1 198 := ⟨by decide +kernel, rfl⟩
theorem eX12_slh_198 : vD cX12_slh 198 (.if_icmp .ne 8) 3 201 := ⟨by decide +kernel, rfl⟩
theorem eX12_slh_201 : vD cX12_slh 201 (.bipush 22) 2 203 := ⟨by decide +kernel, rfl⟩
theorem eX12_slh_203 : vD cX12_slh 203 (.goto 5) 3 206 := ⟨by decide +kernel, rfl⟩
theorem eX12_slh_206 : vD cX12_slh 206 (.bipush 35) 2 208 := ⟨by decide +kernel, rfl⟩
theorem eX12_slh_208 : vD cX12_slh 208 (.putfield 255) 3 211 := ⟨by decide +kernel, rfl⟩
theorem eX12_slh_211 : vD cX12_slh 211 (.aload_n 0) 1 212 := ⟨by decide +kernel, rfl⟩
theorem eX12_slh_212 : vD cX12_slh 212 (.aload_n 0) 1 213 := ⟨by decide +kernel, rfl⟩
theorem eX12_slh_213 : vD cX12_slh 213 (.getfield 246) 3 216 := ⟨by decide +kernel, rfl⟩
theorem eX12_slh_216 : vD cX12_slh 216 (.aload_n 0) 1 217 := ⟨by decide +kernel, rfl⟩
theorem eX12_slh_217 : vD cX12_slh 217 (.getfield 249) 3 220 := ⟨by decide +kernel, rfl⟩
theorem eX12_slh_220 : vD cX12_slh 220 .idiv 1 221 := ⟨by decide +kernel, rfl⟩
theorem eX12_slh_221 : vD cX12_slh 221 (.putfield 258) 3 224 := ⟨by decide +kernel, rfl⟩
theorem eX12_slh_224 : vD cX12_slh 224 (.aload_n 0) 1 225 := ⟨by decide +kernel, rfl⟩
theorem eX12_slh_225 : vD cX12_slh 225 (.iconst 2) 1 226 := ⟨by decide +kernel, rfl⟩
theorem eX12_slh_226 : vD cX12_slh 226 (.aload_n 0) 1 227 := ⟨by decide +kernel, rfl⟩
theorem eX12_slh_227 : vD cX12_slh 227 (.getfield 243) 3 230 := ⟨by decide +kernel, rfl⟩
theorem eX12_slh_230 : vD cX12_slh 230 .imul 1 231 := ⟨by decide +kernel, rfl⟩
theorem eX12_slh_231 : vD cX12_slh 231 (.iconst 3) 1 232 := ⟨by decide +kernel, rfl⟩
theorem eX12_slh_232 : vD cX12_slh 232 .iadd 1 233 := ⟨by decide +kernel, rfl⟩
theorem eX12_slh_233 : vD cX12_slh 233 (.putfield 261) 3 236 := ⟨by decide +kernel, rfl⟩
theorem eX12_slh_236 : vD cX12_slh 236 (.aload_n 0) 1 237 := ⟨by decide +kernel, rfl⟩
theorem eX12_slh_237 : vD cX12_slh 237 (.iload_n 1) 1 238 := ⟨by decide +kernel, rfl⟩
theorem eX12_slh_238 : vD cX12_slh 238 (.bipush 6) 2 240 := ⟨by decide +kernel, rfl⟩
theorem eX12_slh_240 : vD cX12_slh 240 (.if_icmp .ge 7) 3 243 := ⟨by decide +kernel, rfl⟩
theorem eX12_slh_243 : vD cX12_slh 243 (.iconst 1) 1 244 := ⟨by decide +kernel, rfl⟩
theorem eX12_slh_244 : vD cX12_slh 244 (.goto 4) 3 247 := ⟨by decide +kernel, rfl⟩
theorem eX12_slh_247 : vD cX12_slh 247 (.iconst 0) 1 248 := ⟨by decide +kernel, rfl⟩
theorem eX12_slh_248 : vD cX12_slh 248 (.putfield 264) 3 251 := ⟨by decide +kernel, rfl⟩
theorem eX12_slh_251 : vD cX12_slh 251 (.iconst 0) 1 252 := ⟨by decide +kernel, rfl⟩
theorem eX12_slh_252 : vD cX12_slh 252 (.istore_n 3) 1 253 := ⟨by decide +kernel, rfl⟩
theorem eX12_slh_253 : vD cX12_slh 253 (.iload_n 3) 1 254 := ⟨by decide +kernel, rfl⟩
theorem eX12_slh_254 : vD cX12_slh 254 (.bipush 32) 2 256 := ⟨by decide +kernel, rfl⟩
theorem eX12_slh_256 : vD cX12_slh 256 (.if_icmp .ge 16) 3 259 := ⟨by decide +kernel, rfl⟩
theorem eX12_slh_259 : vD cX12_slh 259 (.aload_n 0) 1 260 := ⟨by decide +kernel, rfl⟩
theorem eX12_slh_260 : vD cX12_slh 260 (.getfield 81) 3 263 := ⟨by decide +kernel, rfl⟩
theorem eX12_slh_263 : vD cX12_slh 263 (.iload_n 3) 1 264 := ⟨by decide +kernel, rfl⟩
theorem eX12_slh_264 : vD cX12_slh 264 (.iconst 0) 1 265 := ⟨by decide +kernel, rfl⟩
theorem eX12_slh_265 : vD cX12_slh 265 .bastore 1 266 := ⟨by decide +kernel, rfl⟩
theorem eX12_slh_266 : vD cX12_slh 266 (.iinc 3 1) 3 269 := ⟨by decide +kernel, rfl⟩
theorem eX12_slh_269 : vD cX12_slh 269 (.goto (-16)) 3 272 := ⟨by decide +kernel, rfl⟩
theorem eX12_slh_272 : vD cX12_slh 272 .return_ 1 273 := ⟨by decide +kernel, rfl⟩
theorem eX12_good_0 : vD cX12_good 0 (.aload_n 0) 1 1 := ⟨by decide +kernel, rfl⟩
theorem eX12_good_1 : vD cX12_good 1 (.iload_n 1) 1 2 := ⟨by decide +kernel, rfl⟩
theorem eX12_good_2 : vD cX12_good 2 (.ifCond .eq 7) 3 5 := ⟨by decide +kernel, rfl⟩
theorem eX12_good_5 : vD cX12_good 5 (.iconst 0) 1 6 := ⟨by decide +kernel, rfl⟩
theorem eX12_good_6 : vD cX12_good 6 (.goto 4) 3 9 := ⟨by decide +kernel, rfl⟩
theorem eX12_good_9 : vD cX12_good 9 (.iload_n 2) 1 10 := ⟨by decide +kernel, rfl⟩
theorem eX12_good_10 : vD cX12_good 10 (.putfield 123) 3 13 := ⟨by decide +kernel, rfl⟩
theorem eX12_good_13 : vD cX12_good 13 (.iload_n 1) 1 14 := ⟨by decide +kernel, rfl⟩
theorem eX12_good_14 : vD cX12_good 14 .ireturn 1 15 := ⟨by decide +kernel, rfl⟩
theorem eX12_in_0 : vD cX12_in 0 (.iload_n 0) 1 1 := ⟨by decide +kernel, rfl⟩
theorem eX12_in_1 : vD cX12_in 1 (.iload_n 1) 1 2 := ⟨by decide +kernel, rfl⟩
theorem eX12_in_2 : vD cX12_in 2 (.if_icmp .lt 12) 3 5 := ⟨by decide +kernel, rfl⟩
theorem eX12_in_5 : vD cX12_in 5 (.iload_n 0) 1 6 := ⟨by decide +kernel, rfl⟩
theorem eX12_in_6 : vD cX12_in 6 (.iload_n 2) 1 7 := ⟨by decide +kernel, rfl⟩
theorem eX12_in_7 : vD cX12_in 7 (.if_icmp .gt 7) 3 10 := ⟨by decide +kernel, rfl⟩
theorem eX12_in_10 : vD cX12_in 10 (.iconst 1) 1 11 := ⟨by decide +kernel, rfl⟩
theorem eX12_in_11 : vD cX12_in 11 (.goto 4) 3 14 := ⟨by decide +kernel, rfl⟩
theorem eX12_in_14 : vD cX12_in 14 (.iconst 0) 1 15 := ⟨by decide +kernel, rfl⟩
theorem eX12_in_15 : vD cX12_in 15 .ireturn 1 16 := ⟨by decide +kernel, rfl⟩
theorem eX12_digestTree_0 : vD cX12_digestTree 0 (.aload_n 0) 1 1 := ⟨by decide +kernel, rfl⟩
theorem eX12_digestTree_1 : vD cX12_digestTree 1 (.getfield 255) 3 4 := ⟨by decide +kernel, rfl⟩
theorem eX12_digestTree_4 : vD cX12_digestTree 4 (.aload_n 0) 1 5 := ⟨by decide +kernel, rfl⟩
theorem eX12_digestTree_5 : vD cX12_digestTree 5 (.getfield 252) 3 8 := ⟨by decide +kernel, rfl⟩
theorem eX12_digestTree_8 : vD cX12_digestTree 8 .imul 1 9 := ⟨by decide +kernel, rfl⟩
theorem eX12_digestTree_9 : vD cX12_digestTree 9 (.bipush 7) 2 11 := ⟨by decide +kernel, rfl⟩
theorem eX12_digestTree_11 : vD cX12_digestTree 11 .iadd 1 12 := ⟨by decide +kernel, rfl⟩
theorem eX12_digestTree_12 : vD cX12_digestTree 12 (.bipush 8) 2 14 := ⟨by decide +kernel, rfl⟩
theorem eX12_digestTree_14 : vD cX12_digestTree 14 .idiv 1 15 := ⟨by decide +kernel, rfl⟩
theorem eX12_digestTree_15 : vD cX12_digestTree 15 (.aload_n 0) 1 16 := ⟨by decide +kernel, rfl⟩
theorem eX12_digestTree_16 : vD cX12_digestTree 16 (.getfield 246) 3 19 := ⟨by decide +kernel, rfl⟩
theorem eX12_digestTree_19 : vD cX12_digestTree 19 (.aload_n 0) 1 20 := ⟨by decide +kernel, rfl⟩
theorem eX12_digestTree_20 : vD cX12_digestTree 20 (.getfield 258) 3 23 := ⟨by decide +kernel, rfl⟩
theorem eX12_digestTree_23 : vD cX12_digestTree 23 .isub 1 24 := ⟨by decide +kernel, rfl⟩
theorem eX12_digestTree_24 : vD cX12_digestTree 24 (.bipush 7) 2 26 := ⟨by decide +kernel, rfl⟩
theorem eX12_digestTree_26 : vD cX12_digestTree 26 .iadd 1 27 := ⟨by decide +kernel, rfl⟩
theorem eX12_digestTree_27 : vD cX12_digestTree 27 (.bipush 8) 2 29 := ⟨by decide +kernel, rfl⟩
theorem eX12_digestTree_29 : vD cX12_digestTree 29 .idiv 1 30 := ⟨by decide +kernel, rfl⟩
theorem eX12_digestTree_30 : vD cX12_digestTree 30 .iadd 1 31 := ⟨by decide +kernel, rfl⟩
theorem eX12_digestTree_31 : vD cX12_digestTree 31 (.aload_n 0) 1 32 := ⟨by decide +kernel, rfl⟩
theorem eX12_digestTree_32 : vD cX12_digestTree 32 (.getfield 258) 3 35 := ⟨by decide +kernel, rfl⟩
theorem eX12_digestTree_35 : vD cX12_digestTree 35 (.bipush 7) 2 37 := ⟨by decide +kernel, rfl⟩
theorem eX12_digestTree_37 : vD cX12_digestTree 37 .iadd 1 38 := ⟨by decide +kernel, rfl⟩
theorem eX12_digestTree_38 : vD cX12_digestTree 38 (.bipush 8) 2 40 := ⟨by decide +kernel, rfl⟩
theorem eX12_digestTree_40 : vD cX12_digestTree 40 .idiv 1 41 := ⟨by decide +kernel, rfl⟩
theorem eX12_digestTree_41 : vD cX12_digestTree 41 .iadd 1 42 := ⟨by decide +kernel, rfl⟩
theorem eX12_digestTree_42 : vD cX12_digestTree 42 (.istore 4) 2 44 := ⟨by decide +kernel, rfl⟩
theorem eX12_digestTree_44 : vD cX12_digestTree 44 (.aload_n 0) 1 45 := ⟨by decide +kernel, rfl⟩
theorem eX12_digestTree_45 : vD cX12_digestTree 45 (.iload_n 3) 1 46 := ⟨by decide +kernel, rfl⟩
theorem eX12_digestTree_46 : vD cX12_digestTree 46 (.invokevirtual 305) 3 49 := ⟨by decide +kernel, rfl⟩
theorem eX12_digestTree_49 : vD cX12_digestTree 49 (.aload_n 0) 1 50 := ⟨by decide +kernel, rfl⟩
theorem eX12_digestTree_50 : vD cX12_digestTree 50 (.aload_n 0) 1 51 := ⟨by decide +kernel, rfl⟩
theorem eX12_digestTree_51 : vD cX12_digestTree 51 (.getfield 264) 3 54 := ⟨by decide +kernel, rfl⟩
theorem eX12_digestTree_54 : vD cX12_digestTree 54 (.ifCond .eq 8) 3 57 := ⟨by decide +kernel, rfl⟩
theorem eX12_digestTree_57 : vD cX12_digestTree 57 (.bipush 12) 2 59 := ⟨by decide +kernel, rfl⟩
theorem eX12_digestTree_59 : vD cX12_digestTree 59 (.goto 7) 3 62 := ⟨by decide +kernel, rfl⟩
theorem eX12_digestTree_62 : vD cX12_digestTree 62 (.aload_n 0) 1 63 := ⟨by decide +kernel, rfl⟩
theorem eX12_digestTree_63 : vD cX12_digestTree 63 (.invokevirtual 308) 3 66 := ⟨by decide +kernel, rfl⟩
theorem eX12_digestTree_66 : vD cX12_digestTree 66 (.invokevirtual 166) 3 69 := ⟨by decide +kernel, rfl⟩
theorem eX12_digestTree_69 : vD cX12_digestTree 69 (.aload_n 0) 1 70 := ⟨by decide +kernel, rfl⟩
theorem eX12_digestTree_70 : vD cX12_digestTree 70 (.aload_n 1) 1 71 := ⟨by decide +kernel, rfl⟩
theorem eX12_digestTree_71 : vD cX12_digestTree 71 (.iload_n 2) 1 72 := ⟨by decide +kernel, rfl⟩
theorem eX12_digestTree_72 : vD cX12_digestTree 72 (.aload_n 0) 1 73 := ⟨by decide +kernel, rfl⟩
theorem eX12_digestTree_73 : vD cX12_digestTree 73 (.getfield 243) 3 76 := ⟨by decide +kernel, rfl⟩
theorem eX12_digestTree_76 : vD cX12_digestTree 76 (.invokevirtual 233) 3 79 := ⟨by decide +kernel, rfl⟩
theorem eX12_digestTree_79 : vD cX12_digestTree 79 (.aload_n 0) 1 80 := ⟨by decide +kernel, rfl⟩
theorem eX12_digestTree_80 : vD cX12_digestTree 80 (.aload_n 0) 1 81 := ⟨by decide +kernel, rfl⟩
theorem eX12_digestTree_81 : vD cX12_digestTree 81 (.getfield 108) 3 84 := ⟨by decide +kernel, rfl⟩
theorem eX12_digestTree_84 : vD cX12_digestTree 84 (.iconst 0) 1 85 := ⟨by decide +kernel, rfl⟩
theorem eX12_digestTree_85 : vD cX12_digestTree 85 (.aload_n 0) 1 86 := ⟨by decide +kernel, rfl⟩
theorem eX12_digestTree_86 : vD cX12_digestTree 86 (.getfield 243) 3 89 := ⟨by decide +kernel, rfl⟩
theorem eX12_digestTree_89 : vD cX12_digestTree 89 (.invokevirtual 233) 3 92 := ⟨by decide +kernel, rfl⟩
theorem eX12_digestTree_92 : vD cX12_digestTree 92 (.aload_n 0) 1 93 := ⟨by decide +kernel, rfl⟩
theorem eX12_digestTree_93 : vD cX12_digestTree 93 (.aload_n 0) 1 94 := ⟨by decide +kernel, rfl⟩
theorem eX12_digestTree_94 : vD cX12_digestTree 94 (.getfield 117) 3 97 := ⟨by decide +kernel, rfl⟩
theorem eX12_digestTree_97 : vD cX12_digestTree 97 (.iconst 0) 1 98 := ⟨by decide +kernel, rfl⟩
theorem eX12_digestTree_98 : vD cX12_digestTree 98 (.aload_n 0) 1 99 := ⟨by decide +kernel, rfl⟩
theorem eX12_digestTree_99 : vD cX12_digestTree 99 (.getfield 243) 3 102 := ⟨by decide +kernel, rfl⟩
theorem eX12_digestTree_102 : vD cX12_digestTree 102 (.invokevirtual 233) 3 105 := ⟨by decide +kernel, rfl⟩
theorem eX12_digestTree_105 : vD cX12_digestTree 105 (.aload_n 0) 1 106 := ⟨by decide +kernel, rfl⟩
theorem eX12_digestTree_106 : vD cX12_digestTree 106 (.iload_n 3) 1 107 := ⟨by decide +kernel, rfl⟩
theorem eX12_digestTree_107 : vD cX12_digestTree 107 (.invokevirtual 311) 3 110 := ⟨by decide +kernel, rfl⟩
theorem eX12_digestTree_110 : vD cX12_digestTree 110 (.aload_n 0) 1 111 := ⟨by decide +kernel, rfl⟩
theorem eX12_digestTree_111 : vD cX12_digestTree 111 (.getfield 264) 3 114 := ⟨by decide +kernel, rfl⟩
theorem eX12_digestTree_114 : vD cX12_digestTree 114 (.ifCond .eq 15) 3 117 := ⟨by decide +kernel, rfl⟩
theorem eX12_digestTree_117 : vD cX12_digestTree 117 (.aload_n 0) 1 118 := ⟨by decide +kernel, rfl⟩
theorem eX12_digestTree_118 : vD cX12_digestTree 118 (.aload_n 0) 1 119 := ⟨by decide +kernel, rfl⟩
theorem eX12_digestTree_119 : vD cX12_digestTree 119 (.getfield 102) 3 122 := ⟨by decide +kernel, rfl⟩
theorem eX12_digestTree_122 : vD cX12_digestTree 122 (.iconst 0) 1 123 := ⟨by decide +kernel, rfl⟩
theorem eX12_digestTree_123 : vD cX12_digestTree 123 (.iload 4) 2 125 := ⟨by decide +kernel, rfl⟩
theorem eX12_digestTree_125 : vD cX12_digestTree 125 (.invokevirtual 236) 3 128 := ⟨by decide +kernel, rfl⟩
theorem eX12_digestTree_128 : vD cX12_digestTree 128 .return_ 1 129 := ⟨by decide +kernel, rfl⟩
theorem eX12_digestTree_129 : vD cX12_digestTree 129 (.aload_n 0) 1 130 := ⟨by decide +kernel, rfl⟩
theorem eX12_digestTree_130 : vD cX12_digestTree 130 (.invokevirtual 308) 3 133 := ⟨by decide +kernel, rfl⟩
theorem eX12_digestTree_133 : vD cX12_digestTree 133 (.invokestatic 187) 3 136 := ⟨by decide +kernel, rfl⟩
theorem eX12_digestTree_136 : vD cX12_digestTree 136 (.istore 5) 2 138 := ⟨by decide +kernel, rfl⟩
theorem eX12_digestTree_138 : vD cX12_digestTree 138 (.aload_n 0) 1 139 := ⟨by decide +kernel, rfl⟩
theorem eX12_digestTree_139 : vD cX12_digestTree 139 (.aload_n 0) 1 140 := ⟨by decide +kernel, rfl⟩
theorem eX12_digestTree_140 : vD cX12_digestTree 140 (.getfield 72) 3 143 := ⟨by decide +kernel, rfl⟩
theorem eX12_digestTree_143 : vD cX12_digestTree 143 (.iconst 0) 1 144 := ⟨by decide +kernel, rfl⟩
theorem eX12_digestTree_144 : vD cX12_digestTree 144 (.iload 5) 2 146 := ⟨by decide +kernel, rfl⟩
theorem eX12_digestTree_146 : vD cX12_digestTree 146 (.invokevirtual 236) 3 149 := ⟨by decide +kernel, rfl⟩
theorem eX12_digestTree_149 : vD cX12_digestTree 149 (.aload_n 1) 1 150 := ⟨by decide +kernel, rfl⟩
theorem eX12_digestTree_150 : vD cX12_digestTree 150 (.iload_n 2) 1 151 := ⟨by decide +kernel, rfl⟩
theorem eX12_digestTree_151 : vD cX12_digestTree 151 (.aload_n 0) 1 152 := ⟨by decide +kernel, rfl⟩
theorem eX12_digestTree_152 : vD cX12_digestTree 152 (.getfield 75) 3 155 := ⟨by decide +kernel, rfl⟩
theorem eX12_digestTree_155 : vD cX12_digestTree 155 (.iconst 0) 1 156 := ⟨by decide +kernel, rfl⟩
theorem eX12_digestTree_156 : vD cX12_digestTree 156 (.aload_n 0) 1 157 := ⟨by decide +kernel, rfl⟩
theorem eX12_digestTree_157 : vD cX12_digestTree 157 (.getfield 243) 3 160 := ⟨by decide +kernel, rfl⟩
theorem eX12_digestTree_160 : vD cX12_digestTree 160 (.invokestatic 239) 3 163 := ⟨by decide +kernel, rfl⟩
theorem eX12_digestTree_163 : vD cX12_digestTree 163 (.aload_n 0) 1 164 := ⟨by decide +kernel, rfl⟩
theorem eX12_digestTree_164 : vD cX12_digestTree 164 (.getfield 108) 3 167 := ⟨by decide +kernel, rfl⟩
theorem eX12_digestTree_167 : vD cX12_digestTree 167 (.iconst 0) 1 168 := ⟨by decide +kernel, rfl⟩
theorem eX12_digestTree_168 : vD cX12_digestTree 168 (.aload_n 0) 1 169 := ⟨by decide +kernel, rfl⟩
theorem eX12_digestTree_169 : vD cX12_digestTree 169 (.getfield 75) 3 172 := ⟨by decide +kernel, rfl⟩
theorem eX12_digestTree_172 : vD cX12_digestTree 172 (.aload_n 0) 1 173 := ⟨by decide +kernel, rfl⟩
theorem eX12_digestTree_173 : vD cX12_digestTree 173 (.getfield 243) 3 176 := ⟨by decide +kernel, rfl⟩
theorem eX12_digestTree_176 : vD cX12_digestTree 176 (.aload_n 0) 1 177 := ⟨by decide +kernel, rfl⟩
theorem eX12_digestTree_177 : vD cX12_digestTree 177 (.getfield 243) 3 180 := ⟨by decide +kernel, rfl⟩
theorem eX12_digestTree_180 : vD cX12_digestTree 180 (.invokestatic 239) 3 183 := ⟨by decide +kernel, rfl⟩
theorem eX12_digestTree_183 : vD cX12_digestTree 183 (.aload_n 0) 1 184 := ⟨by decide +kernel, rfl⟩
theorem eX12_digestTree_184 : vD cX12_digestTree 184 (.getfield 72) 3 187 := ⟨by decide +kernel, rfl⟩
theorem eX12_digestTree_187 : vD cX12_digestTree 187 (.iconst 0) 1 188 := ⟨by decide +kernel, rfl⟩
theorem eX12_digestTree_188 : vD cX12_digestTree 188 (.aload_n 0) 1 189 := ⟨by decide +kernel, rfl⟩
theorem eX12_digestTree_189 : vD cX12_digestTree 189 (.getfield 75) 3 192 := ⟨by decide +kernel, rfl⟩
theorem eX12_digestTree_192 : vD cX12_digestTree 192 (.iconst 2) 1 193 := ⟨by decide +kernel, rfl⟩
theorem eX12_digestTree_193 : vD cX12_digestTree 193 (.aload_n 0) 1 194 := ⟨by decide +kernel, rfl⟩
theorem eX12_digestTree_194 : vD cX12_digestTree 194 (.getfield 243) 3 197 := ⟨by decide +kernel, rfl⟩
theorem eX12_digestTree_197 : vD cX12_digestTree 197 .imul 1 198 := ⟨by decide +kernel, rfl⟩
theorem eX12_digestTree_198 : vD cX12_digestTree 198 (.iload 5) 2 200 := ⟨by decide +kernel, rfl⟩
theorem eX12_digestTree_200 : vD cX12_digestTree 200 (.invokestatic 239) 3 203 := ⟨by decide +kernel, rfl⟩
theorem eX12_digestTree_203 : vD cX12_digestTree 203 (.aload_n 0) 1 204 := ⟨by decide +kernel, rfl⟩
theorem eX12_digestTree_204 : vD cX12_digestTree 204 (.aload_n 0) 1 205 := ⟨by decide +kernel, rfl⟩
theorem eX12_digestTree_205 : vD cX12_digestTree 205 (.invokevirtual 308) 3 208 := ⟨by decide +kernel, rfl⟩
theorem eX12_digestTree_208 : vD cX12_digestTree 208 (.aload_n 0) 1 209 := ⟨by decide +kernel, rfl⟩
theorem eX12_digestTree_209 : vD cX12_digestTree 209 (.getfield 75) 3 212 := ⟨by decide +kernel, rfl⟩
theorem eX12_digestTree_212 : vD cX12_digestTree 212 (.iconst 2) 1 213 := ⟨by decide +kernel, rfl⟩
theorem eX12_digestTree_213 : vD cX12_digestTree 213 (.aload_n 0) 1 214 := ⟨by decide +kernel, rfl⟩
theorem eX12_digestTree_214 : vD cX12_digestTree 214 (.getfield 243) 3 217 := ⟨by decide +kernel, rfl⟩
theorem eX12_digestTree_217 : vD cX12_digestTree 217 .imul 1 218 := ⟨by decide +kernel, rfl⟩
theorem eX12_digestTree_218 : vD cX12_digestTree 218 (.iload 5) 2 220 := ⟨by decide +kernel, rfl⟩
theorem eX12_digestTree_220 : vD cX12_digestTree 220 .iadd 1 221 := ⟨by decide +kernel, rfl⟩
theorem eX12_digestTree_221 : vD cX12_digestTree 221 (.aload_n 0) 1 222 := ⟨by decide +kernel, rfl⟩
theorem eX12_digestTree_222 : vD cX12_digestTree 222 (.getfield 102) 3 225 := ⟨by decide +kernel, rfl⟩
theorem eX12_digestTree_225 : vD cX12_digestTree 225 (.iconst 0) 1 226 := ⟨by decide +kernel, rfl⟩
theorem eX12_digestTree_226 : vD cX12_digestTree 226 (.iload 4) 2 228 := ⟨by decide +kernel, rfl⟩
theorem eX12_digestTree_228 : vD cX12_digestTree 228 (.invokevirtual 314) 3 231 := ⟨by decide +kernel, rfl⟩
theorem eX12_digestTree_231 : vD cX12_digestTree 231 .return_ 1 232 := ⟨by decide +kernel, rfl⟩
theorem eX12_treeNumber_0 : vD cX12_treeNumber 0 (.aload_n 0) 1 1 := ⟨by decide +kernel, rfl⟩
theorem eX12_treeNumber_1 : vD cX12_treeNumber 1 (.getfield 255) 3 4 := ⟨by decide +kernel, rfl⟩
theorem eX12_treeNumber_4 : vD cX12_treeNumber 4 (.aload_n 0) 1 5 := ⟨by decide +kernel, rfl⟩
theorem eX12_treeNumber_5 : vD cX12_treeNumber 5 (.getfield 252) 3 8 := ⟨by decide +kernel, rfl⟩
theorem eX12_treeNumber_8 : vD cX12_treeNumber 8 .imul 1 9 := ⟨by decide +kernel, rfl⟩
theorem eX12_treeNumber_9 : vD cX12_treeNumber 9 (.bipush 7) 2 11 := ⟨by decide +kernel, rfl⟩
theorem eX12_treeNumber_11 : vD cX12_treeNumber 11 .iadd 1 12 := ⟨by decide +kernel, rfl⟩
theorem eX12_treeNumber_12 : vD cX12_treeNumber 12 (.bipush 8) 2 14 := ⟨by decide +kernel, rfl⟩
theorem eX12_treeNumber_14 : vD cX12_treeNumber 14 .idiv 1 15 := ⟨by decide +kernel, rfl⟩
theorem eX12_treeNumber_15 : vD cX12_treeNumber 15 (.istore_n 1) 1 16 := ⟨by decide +kernel, rfl⟩
theorem eX12_treeNumber_16 : vD cX12_treeNumber 16 (.aload_n 0) 1 17 := ⟨by decide +kernel, rfl⟩
theorem eX12_treeNumber_17 : vD cX12_treeNumber 17 (.getfield 246) 3 20 := ⟨by decide +kernel, rfl⟩
theorem eX12_treeNumber_20 : vD cX12_treeNumber 20 (.aload_n 0) 1 21 := ⟨by decide +kernel, rfl⟩
theorem eX12_treeNumber_21 : vD cX12_treeNumber 21 (.getfield 258) 3 24 := ⟨by decide +kernel, rfl⟩
theorem eX12_treeNumber_24 : vD cX12_treeNumber 24 .isub 1 25 := ⟨by decide +kernel, rfl⟩
theorem eX12_treeNumber_25 : vD cX12_treeNumber 25 (.bipush 7) 2 27 := ⟨by decide +kernel, rfl⟩
theorem eX12_treeNumber_27 : vD cX12_treeNumber 27 .iadd 1 28 := ⟨by decide +kernel, rfl⟩
theorem eX12_treeNumber_28 : vD cX12_treeNumber 28 (.bipush 8) 2 30 := ⟨by decide +kernel, rfl⟩
theorem eX12_treeNumber_30 : vD cX12_treeNumber 30 .idiv 1 31 := ⟨by decide +kernel, rfl⟩
theorem eX12_treeNumber_31 : vD cX12_treeNumber 31 (.istore_n 2) 1 32 := ⟨by decide +kernel, rfl⟩
theorem eX12_treeNumber_32 : vD cX12_treeNumber 32 (.lconst 0) 1 33 := ⟨by decide +kernel, rfl⟩
theorem eX12_treeNumber_33 : vD cX12_treeNumber 33 (.lstore_n 3) 1 34 := ⟨by decide +kernel, rfl⟩
theorem eX12_treeNumber_34 : vD cX12_treeNumber 34 (.iconst 0) 1 35 := ⟨by decide +kernel, rfl⟩
theorem eX12_treeNumber_35 : vD cX12_treeNumber 35 (.istore 5) 2 37 := ⟨by decide +kernel, rfl⟩
theorem eX12_treeNumber_37 : vD cX12_treeNumber 37 (.iload 5) 2 39 := ⟨by decide +kernel, rfl⟩
theorem eX12_treeNumber_39 : vD cX12_treeNumber 39 (.iload_n 2) 1 40 := ⟨by decide +kernel, rfl⟩
theorem eX12_treeNumber_40 : vD cX12_treeNumber 40 (.if_icmp .ge 29) 3 43 := ⟨by decide +kernel, rfl⟩
theorem eX12_treeNumber_43 : vD cX12_treeNumber 43 (.lload_n 3) 1 44 := ⟨by decide +kernel, rfl⟩
theorem eX12_treeNumber_44 : vD cX12_treeNumber 44 (.bipush 8) 2 46 := ⟨by decide +kernel, rfl⟩
theorem eX12_treeNumber_46 : vD cX12_treeNumber 46 .lshl 1 47 := ⟨by decide +kernel, rfl⟩
theorem eX12_treeNumber_47 : vD cX12_treeNumber 47 (.aload_n 0) 1 48 := ⟨by decide +kernel, rfl⟩
theorem eX12_treeNumber_48 : vD cX12_treeNumber 48 (.getfield 102) 3 51 := ⟨by decide +kernel, rfl⟩
theorem eX12_treeNumber_51 : vD cX12_treeNumber 51 (.iload_n 1) 1 52 := ⟨by decide +kernel, rfl⟩
theorem eX12_treeNumber_52 : vD cX12_treeNumber 52 (.iload 5) 2 54 := ⟨by decide +kernel, rfl⟩
theorem eX12_treeNumber_54 : vD cX12_treeNumber 54 .iadd 1 55 := ⟨by decide +kernel, rfl⟩
theorem eX12_treeNumber_55 : vD cX12_treeNumber 55 .baload 1 56 := ⟨by decide +kernel, rfl⟩
theorem eX12_treeNumber_56 : vD cX12_treeNumber 56 .i2l 1 57 := ⟨by decide +kernel, rfl⟩
theorem eX12_treeNumber_57 : vD cX12_treeNumber 57 (.ldc2_w 142) 3 60 := ⟨by decide +kernel, rfl⟩
theorem eX12_treeNumber_60 : vD cX12_treeNumber 60 .land 1 61 := ⟨by decide +kernel, rfl⟩
theorem eX12_treeNumber_61 : vD cX12_treeNumber 61 .lor 1 62 := ⟨by decide +kernel, rfl⟩
theorem eX12_treeNumber_62 : vD cX12_treeNumber 62 (.lstore_n 3) 1 63 := ⟨by decide +kernel, rfl⟩
theorem eX12_treeNumber_63 : vD cX12_treeNumber 63 (.iinc 5 1) 3 66 := ⟨by decide +kernel, rfl⟩
theorem eX12_treeNumber_66 : vD cX12_treeNumber 66 (.goto (-29)) 3 69 := ⟨by decide +kernel, rfl⟩
theorem eX12_treeNumber_69 : vD cX12_treeNumber 69 (.aload_n 0) 1 70 := ⟨by decide +kernel, rfl⟩
theorem eX12_treeNumber_70 : vD cX12_treeNumber 70 (.getfield 246) 3 73 := ⟨by decide +kernel, rfl⟩
theorem eX12_treeNumber_73 : vD cX12_treeNumber 73 (.aload_n 0) 1 74 := ⟨by decide +kernel, rfl⟩
theorem eX12_treeNumber_74 : vD cX12_treeNumber 74 (.getfield 258) 3 77 := ⟨by decide +kernel, rfl⟩
theorem eX12_treeNumber_77 : vD cX12_treeNumber 77 .isub 1 78 := ⟨by decide +kernel, rfl⟩
theorem eX12_treeNumber_78 : vD cX12_treeNumber 78 (.bipush 64) 2 80 := ⟨by decide +kernel, rfl⟩
theorem eX12_treeNumber_80 : vD cX12_treeNumber 80 (.if_icmp .ne 7) 3 83 := ⟨by decide +kernel, rfl⟩
theorem eX12_treeNumber_83 : vD cX12_treeNumber 83 (.lload_n 3) 1 84 := ⟨by decide +kernel, rfl⟩
theorem eX12_treeNumber_84 : vD cX12_treeNumber 84 (.goto 18) 3 87 := ⟨by decide +kernel, rfl⟩
theorem eX12_treeNumber_87 : vD cX12_treeNumber 87 (.lload_n 3) 1 88 := ⟨by decide +kernel, rfl⟩
theorem eX12_treeNumber_88 : vD cX12_treeNumber 88 (.lconst 1) 1 89 := ⟨by decide +kernel, rfl⟩
theorem eX12_treeNumber_89 : vD cX12_treeNumber 89 (.aload_n 0) 1 90 := ⟨by decide +kernel, rfl⟩
theorem eX12_treeNumber_90 : vD cX12_treeNumber 90 (.getfield 246) 3 93 := ⟨by decide +kernel, rfl⟩
theorem eX12_treeNumber_93 : vD cX12_treeNumber 93 (.aload_n 0) 1 94 := ⟨by decide +kernel, rfl⟩
theorem eX12_treeNumber_94 : vD cX12_treeNumber 94 (.getfield 258) 3 97 := ⟨by decide +kernel, rfl⟩
theorem eX12_treeNumber_97 : vD cX12_treeNumber 97 .isub 1 98 := ⟨by decide +kernel, rfl⟩
theorem eX12_treeNumber_98 : vD cX12_treeNumber 98 .lshl 1 99 := ⟨by decide +kernel, rfl⟩
theorem eX12_treeNumber_99 : vD cX12_treeNumber 99 (.lconst 1) 1 100 := ⟨by decide +kernel, rfl⟩
theorem eX12_treeNumber_100 : vD cX12_treeNumber 100 .lsub 1 101 := ⟨by decide +kernel, rfl⟩
theorem eX12_treeNumber_101 : vD cX12_treeNumber 101 .land 1 102 := ⟨by decide +kernel, rfl⟩
theorem eX12_treeNumber_102 : vD cX12_treeNumber 102 .lreturn 1 103 := ⟨by decide +kernel, rfl⟩
theorem eX12_pairNumber_0 : vD cX12_pairNumber 0 (.aload_n 0) 1 1 := ⟨by decide +kernel, rfl⟩
theorem eX12_pairNumber_1 : vD cX12_pairNumber 1 (.getfield 255) 3 4 := ⟨by decide +kernel, rfl⟩
theorem eX12_pairNumber_4 : vD cX12_pairNumber 4 (.aload_n 0) 1 5 := ⟨by decide +kernel, rfl⟩
theorem eX12_pairNumber_5 : vD cX12_pairNumber 5 (.getfield 252) 3 8 := ⟨by decide +kernel, rfl⟩
theorem eX12_pairNumber_8 : vD cX12_pairNumber 8 .imul 1 9 := ⟨by decide +kernel, rfl⟩
theorem eX12_pairNumber_9 : vD cX12_pairNumber 9 (.bipush 7) 2 11 := ⟨by decide +kernel, rfl⟩
theorem eX12_pairNumber_11 : vD cX12_pairNumber 11 .iadd 1 12 := ⟨by decide +kernel, rfl⟩
theorem eX12_pairNumber_12 : vD cX12_pairNumber 12 (.bipush 8) 2 14 := ⟨by decide +kernel, rfl⟩
theorem eX12_pairNumber_14 : vD cX12_pairNumber 14 .idiv 1 15 := ⟨by decide +kernel, rfl⟩
theorem eX12_pairNumber_15 : vD cX12_pairNumber 15 (.aload_n 0) 1 16 := ⟨by decide +kernel, rfl⟩
theorem eX12_pairNumber_16 : vD cX12_pairNumber 16 (.getfield 246) 3 19 := ⟨by decide +kernel, rfl⟩
theorem eX12_pairNumber_19 : vD cX12_pairNumber 19 (.aload_n 0) 1 20 := ⟨by decide +kernel, rfl⟩
theorem eX12_pairNumber_20 : vD cX12_pairNumber 20 (.getfield 258) 3 23 := ⟨by decide +kernel, rfl⟩
theorem eX12_pairNumber_23 : vD cX12_pairNumber 23 .isub 1 24 := ⟨by decide +kernel, rfl⟩
theorem eX12_pairNumber_24 : vD cX12_pairNumber 24 (.bipush 7) 2 26 := ⟨by decide +kernel, rfl⟩
theorem eX12_pairNumber_26 : vD cX12_pairNumber 26 .iadd 1 27 := ⟨by decide +kernel, rfl⟩
theorem eX12_pairNumber_27 : vD cX12_pairNumber 27 (.bipush 8) 2 29 := ⟨by decide +kernel, rfl⟩
theorem eX12_pairNumber_29 : vD cX12_pairNumber 29 .idiv 1 30 := ⟨by decide +kernel, rfl⟩
theorem eX12_pairNumber_30 : vD cX12_pairNumber 30 .iadd 1 31 := ⟨by decide +kernel, rfl⟩
theorem eX12_pairNumber_31 : vD cX12_pairNumber 31 (.istore_n 1) 1 32 := ⟨by decide +kernel, rfl⟩
theorem eX12_pairNumber_32 : vD cX12_pairNumber 32 (.aload_n 0) 1 33 := ⟨by decide +kernel, rfl⟩
theorem eX12_pairNumber_33 : vD cX12_pairNumber 33 (.getfield 258) 3 36 := ⟨by decide +kernel, rfl⟩
theorem eX12_pairNumber_36 : vD cX12_pairNumber 36 (.bipush 7) 2 38 := ⟨by decide +kernel, rfl⟩
theorem eX12_pairNumber_38 : vD cX12_pairNumber 38 .iadd 1 39 := ⟨by decide +kernel, rfl⟩
theorem eX12_pairNumber_39 : vD cX12_pairNumber 39 (.bipush 8) 2 41 := ⟨by decide +kernel, rfl⟩
theorem eX12_pairNumber_41 : vD cX12_pairNumber 41 .idiv 1 42 := ⟨by decide +kernel, rfl⟩
theorem eX12_pairNumber_42 : vD cX12_pairNumber 42 (.istore_n 2) 1 43 := ⟨by decide +kernel, rfl⟩
theorem eX12_pairNumber_43 : vD cX12_pairNumber 43 (.iconst 0) 1 44 := ⟨by decide +kernel, rfl⟩
theorem eX12_pairNumber_44 : vD cX12_pairNumber 44 (.istore_n 3) 1 45 := ⟨by decide +kernel, rfl⟩
theorem eX12_pairNumber_45 : vD cX12_pairNumber 45 (.iconst 0) 1 46 := ⟨by decide +kernel, rfl⟩
theorem eX12_pairNumber_46 : vD cX12_pairNumber 46 (.istore 4) 2 48 := ⟨by decide +kernel, rfl⟩
theorem eX12_pairNumber_48 : vD cX12_pairNumber 48 (.iload 4) 2 50 := ⟨by decide +kernel, rfl⟩
theorem eX12_pairNumber_50 : vD cX12_pairNumber 50 (.iload_n 2) 1 51 := ⟨by decide +kernel, rfl⟩
theorem eX12_pairNumber_51 : vD cX12_pairNumber 51 (.if_icmp .ge 28) 3 54 := ⟨by decide +kernel, rfl⟩
theorem eX12_pairNumber_54 : vD cX12_pairNumber 54 (.iload_n 3) 1 55 := ⟨by decide +kernel, rfl⟩
theorem eX12_pairNumber_55 : vD cX12_pairNumber 55 (.bipush 8) 2 57 := ⟨by decide +kernel, rfl⟩
theorem eX12_pairNumber_57 : vD cX12_pairNumber 57 .ishl 1 58 := ⟨by decide +kernel, rfl⟩
theorem eX12_pairNumber_58 : vD cX12_pairNumber 58 (.aload_n 0) 1 59 := ⟨by decide +kernel, rfl⟩
theorem eX12_pairNumber_59 : vD cX12_pairNumber 59 (.getfield 102) 3 62 := ⟨by decide +kernel, rfl⟩
theorem eX12_pairNumber_62 : vD cX12_pairNumber 62 (.iload_n 1) 1 63 := ⟨by decide +kernel, rfl⟩
theorem eX12_pairNumber_63 : vD cX12_pairNumber 63 (.iload 4) 2 65 := ⟨by decide +kernel, rfl⟩
theorem eX12_pairNumber_65 : vD cX12_pairNumber 65 .iadd 1 66 := ⟨by decide +kernel, rfl⟩
theorem eX12_pairNumber_66 : vD cX12_pairNumber 66 .baload 1 67 := ⟨by decide +kernel, rfl⟩
theorem eX12_pairNumber_67 : vD cX12_pairNumber 67 (.sipush 255) 3 70 := ⟨by decide +kernel, rfl⟩
theorem eX12_pairNumber_70 : vD cX12_pairNumber 70 .iand 1 71 := ⟨by decide +kernel, rfl⟩
theorem eX12_pairNumber_71 : vD cX12_pairNumber 71 .ior 1 72 := ⟨by decide +kernel, rfl⟩
theorem eX12_pairNumber_72 : vD cX12_pairNumber 72 (.istore_n 3) 1 73 := ⟨by decide +kernel, rfl⟩
theorem eX12_pairNumber_73 : vD cX12_pairNumber 73 (.iinc 4 1) 3 76 := ⟨by decide +kernel, rfl⟩
theorem eX12_pairNumber_76 : vD cX12_pairNumber 76 (.goto (-28)) 3 79 := ⟨by decide +kernel, rfl⟩
theorem eX12_pairNumber_79 : vD cX12_pairNumber 79 (.iload_n 3) 1 80 := ⟨by decide +kernel, rfl⟩
theorem eX12_pairNumber_80 : vD cX12_pairNumber 80 (.iconst 1) 1 81 := ⟨by decide +kernel, rfl⟩
theorem eX12_pairNumber_81 : vD cX12_pairNumber 81 (.aload_n 0) 1 82 := ⟨by decide +kernel, rfl⟩
theorem eX12_pairNumber_82 : vD cX12_pairNumber 82 (.getfield 258) 3 85 := ⟨by decide +kernel, rfl⟩
theorem eX12_pairNumber_85 : vD cX12_pairNumber 85 .ishl 1 86 := ⟨by decide +kernel, rfl⟩
theorem eX12_pairNumber_86 : vD cX12_pairNumber 86 (.iconst 1) 1 87 := ⟨by decide +kernel, rfl⟩
theorem eX12_pairNumber_87 : vD cX12_pairNumber 87 .isub 1 88 := ⟨by decide +kernel, rfl⟩
theorem eX12_pairNumber_88 : vD cX12_pairNumber 88 .iand 1 89 := ⟨by decide +kernel, rfl⟩
theorem eX12_pairNumber_89 : vD cX12_pairNumber 89 .ireturn 1 90 := ⟨by decide +kernel, rfl⟩

/-! the twelve sets -/
def pN (s : Nat) : Nat := [16, 16, 24, 24, 32, 32].getD (s % 6) 0
def pH (s : Nat) : Nat := [63, 66, 63, 66, 64, 68].getD (s % 6) 0
def pD (s : Nat) : Nat := [7, 22, 7, 22, 8, 17].getD (s % 6) 0
def pA (s : Nat) : Nat := [12, 6, 14, 8, 14, 9].getD (s % 6) 0
def pK (s : Nat) : Nat := [14, 33, 17, 33, 22, 35].getD (s % 6) 0
def pP (s : Nat) : Nat := [9, 3, 9, 3, 8, 4].getD (s % 6) 0
def xS (x : Nat → Int32) (s : Nat) : Nat → Int32 := fun j => if j = 41 then nI (pN s) else if j = 42 then nI (pH s) else if j = 43 then nI (pD s) else if j = 44 then nI (pP s) else if j = 45 then nI (pA s) else if j = 46 then nI (pK s) else if j = 47 then nI (2 * pN s + 3) else if j = 48 then (if s < 6 then 1 else 0) else x j
section M25
variable {G : vG} {B : Nat} {l : Launch} {ad : Nat → Nat} {N : Nat} {θ : tT} {x : Nat → Int32} {σ : nS} {bs : List Int32}
set_option maxRecDepth 100000 in
set_option maxHeartbeats 4000000 in
theorem c_in  (v lo hi : Int32) : nOk G B l ad N yX12_in cX12_in 3 (some .boolean) 0 0 0 [.int v, .int lo, .int hi] σ (fun r σ' => r = some (.int (if lo ≤ v ∧ v ≤ hi then 1 else 0)) ∧ σ' = σ) := by
  refine vOk.of (by decide +kernel) (Nat.le_of_ble_eq_true rfl) ?_
  intro p e s m args below meth c C
  refine v_eq (lv' := [(0, .int v), (1, .int lo), (2, .int hi)]) rfl rfl rfl ?_
  refine v_iload_n C eX12_in_0 rfl 0 rfl ?_
  refine v_iload_n C eX12_in_1 rfl 1 rfl ?_
  refine v_icmp_lt (tgt := 14) C eX12_in_2 (by decide) (fun c1 => ?_) (fun c1 => ?_)
  · refine v_iconst (v := (0 : Int32)) C eX12_in_14 (by decide) ?_
    rw [if_neg (fun q => absurd c1 (Int32.not_lt.mpr q.1))]
    exact n_zret C rfl rfl eX12_in_15 ⟨rfl, rfl⟩
  · refine v_iload_n C eX12_in_5 rfl 0 rfl ?_
    refine v_iload_n C eX12_in_6 rfl 2 rfl ?_
    refine v_icmp_gt (tgt := 14) C eX12_in_7 (by decide) (fun c2 => ?_) (fun c2 => ?_)
    · refine v_iconst (v := (0 : Int32)) C eX12_in_14 (by decide) ?_
      rw [if_neg (fun q => absurd c2 (Int32.not_lt.mpr q.2))]
      exact n_zret C rfl rfl eX12_in_15 ⟨rfl, rfl⟩
    · refine v_iconst (v := (1 : Int32)) C eX12_in_10 (by decide) ?_
      refine v_goto (tgt := 15) C eX12_in_11 (by decide) ?_
      rw [if_pos ⟨Int32.not_lt.mp c1, Int32.not_lt.mp c2⟩]
      exact n_zret C rfl rfl eX12_in_15 ⟨rfl, rfl⟩

set_option maxRecDepth 100000 in
set_option maxHeartbeats 4000000 in
theorem rs_good1 (I : nI1 ad N) (hN : ∀ k, k < 74 → k < N) (hC : RS G ad θ x σ) (cd : Int32) : nOk G B l ad N yX12_good cX12_good 3 (some .boolean) 0 0 0 [.ref (ad 49), .int ((1 : Int32)), .int cd] σ (fun r σ' => r = some (.int 1) ∧ RS G ad θ (upd x 4 0) σ' ∧ (∀ k, ¬ (k = 49) → σ' k = σ k)) := by
  refine vOk.of (by decide +kernel) (Nat.le_of_ble_eq_true rfl) ?_
  intro p e s m args below meth c C
  refine v_eq (lv' := [(0, .ref (ad 49)), (1, .int ((1 : Int32))), (2, .int cd)]) rfl rfl rfl ?_
  refine v_aload_n C eX12_good_0 rfl 0 rfl ?_
  refine v_iload_n C eX12_good_1 rfl 1 rfl ?_
  refine v_if_eq (tgt := 9) C eX12_good_2 (by decide) (fun h => absurd h (by decide)) (fun _ => ?_)
  refine v_iconst (v := (0 : Int32)) C eX12_good_5 (by decide) ?_
  refine v_goto (tgt := 10) C eX12_good_6 (by decide) ?_
  refine n_put (fs' := mO ad (upd ((ox σ)) 4 ((0 : Int32))) ((ot σ))) C I fX12_123_X12p eX12_good_10 (hN 49 (by decide)) hC.obj rfl rfl (Nat.le_of_ble_eq_true rfl) rfl ?_
  refine v_iload_n C eX12_good_13 rfl 1 rfl ?_
  exact n_zret C rfl rfl eX12_good_14 ⟨rfl, hC.upO ⟨hC.i3, rfl, hC.i41, hC.i42, hC.i43, hC.i44, hC.i45, hC.i46, hC.i47, hC.i48⟩, fun k hk => by simp [va_up, hk]⟩

set_option maxRecDepth 100000 in
set_option maxHeartbeats 4000000 in
theorem rs_good0 (I : nI1 ad N) (hN : ∀ k, k < 74 → k < N) (hC : RS G ad θ x σ) (cd : Int32) : nOk G B l ad N yX12_good cX12_good 3 (some .boolean) 0 0 0 [.ref (ad 49), .int ((0 : Int32)), .int cd] σ (fun r σ' => r = some (.int 0) ∧ RS G ad θ (upd x 4 cd) σ' ∧ (∀ k, ¬ (k = 49) → σ' k = σ k)) := by
  refine vOk.of (by decide +kernel) (Nat.le_of_ble_eq_true rfl) ?_
  intro p e s m args below meth c C
  refine v_eq (lv' := [(0, .ref (ad 49)), (1, .int ((0 : Int32))), (2, .int cd)]) rfl rfl rfl ?_
  refine v_aload_n C eX12_good_0 rfl 0 rfl ?_
  refine v_iload_n C eX12_good_1 rfl 1 rfl ?_
  refine v_if_eq (tgt := 9) C eX12_good_2 (by decide) (fun _ => ?_) (fun h => absurd (by decide) h)
  refine v_iload_n C eX12_good_9 rfl 2 rfl ?_
  refine n_put (fs' := mO ad (upd ((ox σ)) 4 cd) ((ot σ))) C I fX12_123_X12p eX12_good_10 (hN 49 (by decide)) hC.obj rfl rfl (Nat.le_of_ble_eq_true rfl) rfl ?_
  refine v_iload_n C eX12_good_13 rfl 1 rfl ?_
  exact n_zret C rfl rfl eX12_good_14 ⟨rfl, hC.upO ⟨hC.i3, rfl, hC.i41, hC.i42, hC.i43, hC.i44, hC.i45, hC.i46, hC.i47, hC.i48⟩, fun k hk => by simp [va_up, hk]⟩

set_option maxRecDepth 100000 in
set_option maxHeartbeats 4000000 in
theorem rs_slh0 (I : nI1 ad N) (hN : ∀ k, k < 74 → k < N) (hC : RS G ad θ x σ) : nOk G B l ad N yX12_slh cX12_slh 4 none 0 0 0 [.ref (ad 49), .int (nI 0)] σ (fun r σ' => r = none ∧ RS G ad θ (xS x 0) σ' ∧ (∀ k, ¬ (k = 28 ∨ k = 49) → σ' k = σ k)) := by
  refine vOk.of (by decide +kernel) (Nat.le_of_ble_eq_true rfl) ?_
  intro p e s m args below meth c C
  refine v_eq (lv' := [(0, .ref (ad 49)), (1, .int (nI 0))]) rfl rfl rfl ?_
  refine v_iload_n C eX12_slh_0 rfl 1 rfl ?_
  refine v_bipush (v := (6 : Int32)) C eX12_slh_1 (by decide) ?_
  refine v_irem C eX12_slh_3 (by decide) ?_
  refine v_topi (fun t1 ht1 => ?_)
  refine v_istore_n (lv' := [(0, .ref (ad 49)), (1, .int (nI 0)), (2, .int t1)]) C eX12_slh_4 rfl (by decide) [1, 2, 0] rfl ?_
  refine v_aload_n C eX12_slh_5 rfl 0 rfl ?_
  refine v_iload_n C eX12_slh_6 rfl 2 rfl ?_
  refine v_iconst (v := (2 : Int32)) C eX12_slh_7 (by decide) ?_
  refine v_icmp_ge (tgt := 16) C eX12_slh_8 (by decide) (fun h => absurd h (ix_nle (a := 2) (b := 0 % 6) (rfl : (2 : Int32) = nI 2) (ht1.trans (ix_rem (a := 0) (d := 6) (rfl : nI 0 = nI 0) (rfl : (6 : Int32) = nI 6) (by omega) (by omega) (by omega))) (by omega) (by omega) (by omega))) (fun _ => ?_)
  refine v_bipush (v := (16 : Int32)) C eX12_slh_11 (by decide) ?_
  refine v_goto (tgt := 28) C eX12_slh_13 (by decide) ?_
  refine n_put (fs' := mO ad (upd ((ox σ)) 41 ((16 : Int32))) ((ot σ))) C I fX12_243_X12p eX12_slh_28 (hN 49 (by decide)) hC.obj rfl rfl (Nat.le_of_ble_eq_true rfl) rfl ?_
  refine v_aload_n C eX12_slh_31 rfl 0 rfl ?_
  refine v_iload_n C eX12_slh_32 rfl 2 rfl ?_
  refine v_if_eq (tgt := 41) C eX12_slh_33 (by decide) (fun _ => ?_) (fun h => absurd (ix_eq (a := 0 % 6) (b := 0) (ht1.trans (ix_rem (a := 0) (d := 6) (rfl : nI 0 = nI 0) (rfl : (6 : Int32) = nI 6) (by omega) (by omega) (by omega))) (rfl : (0 : Int32) = nI 0) (by omega) (by omega) (by omega)) h)
  refine v_bipush (v := (63 : Int32)) C eX12_slh_41 (by decide) ?_
  refine v_goto (tgt := 68) C eX12_slh_43 (by decide) ?_
  refine n_put (fs' := mO ad (upd (upd ((ox σ)) 41 ((16 : Int32))) 42 ((63 : Int32))) ((ot σ))) C I fX12_246_X12p eX12_slh_68 (hN 49 (by decide)) rfl rfl rfl (Nat.le_of_ble_eq_true rfl) rfl ?_
  refine v_aload_n C eX12_slh_71 rfl 0 rfl ?_
  refine v_iload_n C eX12_slh_72 rfl 2 rfl ?_
  refine v_if_eq (tgt := 81) C eX12_slh_73 (by decide) (fun _ => ?_) (fun h => absurd (ix_eq (a := 0 % 6) (b := 0) (ht1.trans (ix_rem (a := 0) (d := 6) (rfl : nI 0 = nI 0) (rfl : (6 : Int32) = nI 6) (by omega) (by omega) (by omega))) (rfl : (0 : Int32) = nI 0) (by omega) (by omega) (by omega)) h)
  refine v_bipush (v := (7 : Int32)) C eX12_slh_81 (by decide) ?_
  refine v_goto (tgt := 108) C eX12_slh_83 (by decide) ?_
  refine n_put (fs' := mO ad (upd (upd (upd ((ox σ)) 41 ((16 : Int32))) 42 ((63 : Int32))) 43 ((7 : Int32))) ((ot σ))) C I fX12_249_X12p eX12_slh_108 (hN 49 (by decide)) rfl rfl rfl (Nat.le_of_ble_eq_true rfl) rfl ?_
  refine v_aload_n C eX12_slh_111 rfl 0 rfl ?_
  refine v_iload_n C eX12_slh_112 rfl 2 rfl ?_
  refine v_if_ne (tgt := 121) C eX12_slh_113 (by decide) (fun h => absurd (ix_eq (a := 0 % 6) (b := 0) (ht1.trans (ix_rem (a := 0) (d := 6) (rfl : nI 0 = nI 0) (rfl : (6 : Int32) = nI 6) (by omega) (by omega) (by omega))) (rfl : (0 : Int32) = nI 0) (by omega) (by omega) (by omega)) h) (fun _ => ?_)
  refine v_bipush (v := (12 : Int32)) C eX12_slh_116 (by decide) ?_
  refine v_goto (tgt := 158) C eX12_slh_118 (by decide) ?_
  refine n_put (fs' := mO ad (upd (upd (upd (upd ((ox σ)) 41 ((16 : Int32))) 42 ((63 : Int32))) 43 ((7 : Int32))) 45 ((12 : Int32))) ((ot σ))) C I fX12_252_X12p eX12_slh_158 (hN 49 (by decide)) rfl rfl rfl (Nat.le_of_ble_eq_true rfl) rfl ?_
  refine v_aload_n C eX12_slh_161 rfl 0 rfl ?_
  refine v_iload_n C eX12_slh_162 rfl 2 rfl ?_
  refine v_if_ne (tgt := 171) C eX12_slh_163 (by decide) (fun h => absurd (ix_eq (a := 0 % 6) (b := 0) (ht1.trans (ix_rem (a := 0) (d := 6) (rfl : nI 0 = nI 0) (rfl : (6 : Int32) = nI 6) (by omega) (by omega) (by omega))) (rfl : (0 : Int32) = nI 0) (by omega) (by omega) (by omega)) h) (fun _ => ?_)
  refine v_bipush (v := (14 : Int32)) C eX12_slh_166 (by decide) ?_
  refine v_goto (tgt := 208) C eX12_slh_168 (by decide) ?_
  refine n_put (fs' := mO ad (upd (upd (upd (upd (upd ((ox σ)) 41 ((16 : Int32))) 42 ((63 : Int32))) 43 ((7 : Int32))) 45 ((12 : Int32))) 46 ((14 : Int32))) ((ot σ))) C I fX12_255_X12p eX12_slh_208 (hN 49 (by decide)) rfl rfl rfl (Nat.le_of_ble_eq_true rfl) rfl ?_
  refine v_aload_n C eX12_slh_211 rfl 0 rfl ?_
  refine v_aload_n C eX12_slh_212 rfl 0 rfl ?_
  refine n_get C I fX12_246_X12 eX12_slh_213 (hN 49 (by decide)) rfl rfl ?_
  refine v_aload_n C eX12_slh_216 rfl 0 rfl ?_
  refine n_get C I fX12_249_X12 eX12_slh_217 (hN 49 (by decide)) rfl rfl ?_
  refine v_idiv C eX12_slh_220 (show ¬ (7 : Int32) = 0 by decide) ?_
  refine n_put (fs' := mO ad (upd (upd (upd (upd (upd (upd ((ox σ)) 41 ((16 : Int32))) 42 ((63 : Int32))) 43 ((7 : Int32))) 44 (((63 : Int32)) / ((7 : Int32)))) 45 ((12 : Int32))) 46 ((14 : Int32))) ((ot σ))) C I fX12_258_X12p eX12_slh_221 (hN 49 (by decide)) rfl rfl rfl (Nat.le_of_ble_eq_true rfl) rfl ?_
  refine v_aload_n C eX12_slh_224 rfl 0 rfl ?_
  refine v_iconst (v := (2 : Int32)) C eX12_slh_225 (by decide) ?_
  refine v_aload_n C eX12_slh_226 rfl 0 rfl ?_
  refine n_get C I fX12_243_X12 eX12_slh_227 (hN 49 (by decide)) rfl rfl ?_
  refine v_imul C eX12_slh_230 ?_
  refine v_iconst (v := (3 : Int32)) C eX12_slh_231 (by decide) ?_
  refine v_iadd C eX12_slh_232 ?_
  refine n_put (fs' := mO ad (upd (upd (upd (upd (upd (upd (upd ((ox σ)) 41 ((16 : Int32))) 42 ((63 : Int32))) 43 ((7 : Int32))) 44 (((63 : Int32)) / ((7 : Int32)))) 45 ((12 : Int32))) 46 ((14 : Int32))) 47 ((((2 : Int32)) * ((16 : Int32))) + ((3 : Int32)))) ((ot σ))) C I fX12_261_X12p eX12_slh_233 (hN 49 (by decide)) rfl rfl rfl (Nat.le_of_ble_eq_true rfl) rfl ?_
  refine v_aload_n C eX12_slh_236 rfl 0 rfl ?_
  refine v_iload_n C eX12_slh_237 rfl 1 rfl ?_
  refine v_bipush (v := (6 : Int32)) C eX12_slh_238 (by decide) ?_
  refine v_icmp_ge (tgt := 247) C eX12_slh_240 (by decide) (fun h => absurd h (ix_nle (a := 6) (b := 0) (rfl : (6 : Int32) = nI 6) (rfl : nI 0 = nI 0) (by omega) (by omega) (by omega))) (fun _ => ?_)
  refine v_iconst (v := (1 : Int32)) C eX12_slh_243 (by decide) ?_
  refine v_goto (tgt := 248) C eX12_slh_244 (by decide) ?_
  refine n_put (fs' := mO ad (upd (upd (upd (upd (upd (upd (upd (upd ((ox σ)) 41 ((16 : Int32))) 42 ((63 : Int32))) 43 ((7 : Int32))) 44 (((63 : Int32)) / ((7 : Int32)))) 45 ((12 : Int32))) 46 ((14 : Int32))) 47 ((((2 : Int32)) * ((16 : Int32))) + ((3 : Int32)))) 48 ((1 : Int32))) ((ot σ))) C I fX12_264_X12p eX12_slh_248 (hN 49 (by decide)) rfl rfl rfl (Nat.le_of_ble_eq_true rfl) rfl ?_
  refine v_eq (w' := nW ad N (va_up σ 49 (eO 9 (mO ad (upd (upd (upd (upd (upd (upd (upd (upd ((ox σ)) 41 ((16 : Int32))) 42 ((63 : Int32))) 43 ((7 : Int32))) 44 (((63 : Int32)) / ((7 : Int32)))) 45 ((12 : Int32))) 46 ((14 : Int32))) 47 ((((2 : Int32)) * ((16 : Int32))) + ((3 : Int32)))) 48 ((1 : Int32))) ((ot σ)))))) (congrArg (nW ad N) (n_extL [49] ⟨rfl, trivial⟩ (fun q h => by simp only [List.mem_cons, List.not_mem_nil, or_false, not_or] at h; simp [va_up, h]))) rfl rfl ?_
  refine v_pic (fun ρ hρ => ?_)
  have hC1 : RS G ad θ (xS x 0) ρ := by
    rw [hρ]; exact hC.upO ⟨hC.i3, hC.i4, (show ((16 : Int32) : Int32) = nI 16 by decide), (show ((63 : Int32) : Int32) = nI 63 by decide), (show ((7 : Int32) : Int32) = nI 7 by decide), (show (((63 : Int32)) / ((7 : Int32)) : Int32) = nI 9 by decide), (show ((12 : Int32) : Int32) = nI 12 by decide), (show ((14 : Int32) : Int32) = nI 14 by decide), (show ((((2 : Int32)) * ((16 : Int32))) + ((3 : Int32)) : Int32) = nI 35 by decide), (show ((1 : Int32) : Int32) = 1 by decide)⟩
  have hk1 : ∀ k, ¬ (k = 28 ∨ k = 49) → ρ k = σ k := fun k hk => by rw [hρ]; exact n_ne (by omega)
  refine v_iconst (v := nI 0) C eX12_slh_251 (by decide) ?_
  refine v_istore_n (lv' := [(0, .ref (ad 49)), (1, .int (nI 0)), (2, .int t1), (3, .int (nI 0))]) C eX12_slh_252 rfl (by decide) [1, 2, 3, 0] rfl ?_
  refine v_pick (lv' := [(0, .ref (ad 49)), (1, .int (nI 0)), (3, .int (nI 0))]) [0, 1, 3] rfl ?_
  refine v_forP (fun j τ => RS G ad θ (xS x 0) τ ∧ (∀ k, ¬ (k = 28 ∨ k = 49) → τ k = σ k)) (fun j => [(0, .ref (ad 49)), (1, .int (nI 0)), (3, .int (nI j))]) 32 ?_ ?_ _ ⟨hC1, hk1⟩
  · intro τ hI
    obtain ⟨hC2, hk2⟩ := hI
    refine v_iload_n C eX12_slh_253 rfl 2 rfl ?_
    refine v_bipush (v := (32 : Int32)) C eX12_slh_254 (by decide) ?_
    refine v_icmp_ge (tgt := 272) C eX12_slh_256 (by decide) (fun _ => ?_) (fun h => absurd (ix_le (a := 32) (b := 32) (rfl : (32 : Int32) = nI 32) (rfl : nI 32 = nI 32) (by omega) (by omega) (by omega)) h)
    exact n_vret C rfl eX12_slh_272 ⟨rfl, hC2, hk2⟩
  · intro j hj ih τ hI
    obtain ⟨hC2, hk2⟩ := hI
    refine v_iload_n C eX12_slh_253 rfl 2 rfl ?_
    refine v_bipush (v := (32 : Int32)) C eX12_slh_254 (by decide) ?_
    refine v_icmp_ge (tgt := 272) C eX12_slh_256 (by decide) (fun h => absurd h (ix_nle (a := 32) (b := j) (rfl : (32 : Int32) = nI 32) (rfl : nI j = nI j) (by omega) (by omega) (by omega))) (fun _ => ?_)
    refine v_aload_n C eX12_slh_259 rfl 0 rfl ?_
    refine n_get C I fX12_81_X12 eX12_slh_260 (hN 49 (by decide)) hC2.obj rfl ?_
    refine v_iload_n C eX12_slh_263 rfl 2 rfl ?_
    refine v_iconst (v := (0 : Int32)) C eX12_slh_264 (by decide) ?_
    refine n_bast C I eX12_slh_265 (hN 28 (by decide)) (hC2.b 28 32 rfl (by decide)) j (rfl : nI j = nI j) (by omega) (by decide) ?_
    refine v_iinc (lv' := [(0, .ref (ad 49)), (1, .int (nI 0)), (3, .int (nI (j + 1)))]) C eX12_slh_266 2 rfl (ix_inc _) (by decide) [1, 2, 0] rfl ?_
    refine v_goto (tgt := 253) C eX12_slh_269 (by decide) ?_
    exact ih _ ⟨hC2.up rfl (by decide) _, fun k hk => (n_ne (by omega)).trans (hk2 k hk)⟩

set_option maxRecDepth 100000 in
set_option maxHeartbeats 4000000 in
theorem rs_slh1 (I : nI1 ad N) (hN : ∀ k, k < 74 → k < N) (hC : RS G ad θ x σ) : nOk G B l ad N yX12_slh cX12_slh 4 none 0 0 0 [.ref (ad 49), .int (nI 1)] σ (fun r σ' => r = none ∧ RS G ad θ (xS x 1) σ' ∧ (∀ k, ¬ (k = 28 ∨ k = 49) → σ' k = σ k)) := by
  refine vOk.of (by decide +kernel) (Nat.le_of_ble_eq_true rfl) ?_
  intro p e s m args below meth c C
  refine v_eq (lv' := [(0, .ref (ad 49)), (1, .int (nI 1))]) rfl rfl rfl ?_
  refine v_iload_n C eX12_slh_0 rfl 1 rfl ?_
  refine v_bipush (v := (6 : Int32)) C eX12_slh_1 (by decide) ?_
  refine v_irem C eX12_slh_3 (by decide) ?_
  refine v_topi (fun t1 ht1 => ?_)
  refine v_istore_n (lv' := [(0, .ref (ad 49)), (1, .int (nI 1)), (2, .int t1)]) C eX12_slh_4 rfl (by decide) [1, 2, 0] rfl ?_
  refine v_aload_n C eX12_slh_5 rfl 0 rfl ?_
  refine v_iload_n C eX12_slh_6 rfl 2 rfl ?_
  refine v_iconst (v := (2 : Int32)) C eX12_slh_7 (by decide) ?_
  refine v_icmp_ge (tgt := 16) C eX12_slh_8 (by decide) (fun h => absurd h (ix_nle (a := 2) (b := 1 % 6) (rfl : (2 : Int32) = nI 2) (ht1.trans (ix_rem (a := 1) (d := 6) (rfl : nI 1 = nI 1) (rfl : (6 : Int32) = nI 6) (by omega) (by omega) (by omega))) (by omega) (by omega) (by omega))) (fun _ => ?_)
  refine v_bipush (v := (16 : Int32)) C eX12_slh_11 (by decide) ?_
  refine v_goto (tgt := 28) C eX12_slh_13 (by decide) ?_
  refine n_put (fs' := mO ad (upd ((ox σ)) 41 ((16 : Int32))) ((ot σ))) C I fX12_243_X12p eX12_slh_28 (hN 49 (by decide)) hC.obj rfl rfl (Nat.le_of_ble_eq_true rfl) rfl ?_
  refine v_aload_n C eX12_slh_31 rfl 0 rfl ?_
  refine v_iload_n C eX12_slh_32 rfl 2 rfl ?_
  refine v_if_eq (tgt := 41) C eX12_slh_33 (by decide) (fun h => absurd h (ix_ne (a := 1 % 6) (b := 0) (ht1.trans (ix_rem (a := 1) (d := 6) (rfl : nI 1 = nI 1) (rfl : (6 : Int32) = nI 6) (by omega) (by omega) (by omega))) (rfl : (0 : Int32) = nI 0) (by omega) (by omega) (by omega))) (fun _ => ?_)
  refine v_iload_n C eX12_slh_36 rfl 2 rfl ?_
  refine v_iconst (v := (2 : Int32)) C eX12_slh_37 (by decide) ?_
  refine v_icmp_ne (tgt := 46) C eX12_slh_38 (by decide) (fun _ => ?_) (fun h => absurd h (ix_ne (a := 1 % 6) (b := 2) (ht1.trans (ix_rem (a := 1) (d := 6) (rfl : nI 1 = nI 1) (rfl : (6 : Int32) = nI 6) (by omega) (by omega) (by omega))) (rfl : (2 : Int32) = nI 2) (by omega) (by omega) (by omega)))
  refine v_iload_n C eX12_slh_46 rfl 2 rfl ?_
  refine v_iconst (v := (4 : Int32)) C eX12_slh_47 (by decide) ?_
  refine v_icmp_ne (tgt := 56) C eX12_slh_48 (by decide) (fun _ => ?_) (fun h => absurd h (ix_ne (a := 1 % 6) (b := 4) (ht1.trans (ix_rem (a := 1) (d := 6) (rfl : nI 1 = nI 1) (rfl : (6 : Int32) = nI 6) (by omega) (by omega) (by omega))) (rfl : (4 : Int32) = nI 4) (by omega) (by omega) (by omega)))
  refine v_iload_n C eX12_slh_56 rfl 2 rfl ?_
  refine v_iconst (v := (5 : Int32)) C eX12_slh_57 (by decide) ?_
  refine v_icmp_ne (tgt := 66) C eX12_slh_58 (by decide) (fun _ => ?_) (fun h => absurd h (ix_ne (a := 1 % 6) (b := 5) (ht1.trans (ix_rem (a := 1) (d := 6) (rfl : nI 1 = nI 1) (rfl : (6 : Int32) = nI 6) (by omega) (by omega) (by omega))) (rfl : (5 : Int32) = nI 5) (by omega) (by omega) (by omega)))
  refine v_bipush (v := (66 : Int32)) C eX12_slh_66 (by decide) ?_
  refine n_put (fs' := mO ad (upd (upd ((ox σ)) 41 ((16 : Int32))) 42 ((66 : Int32))) ((ot σ))) C I fX12_246_X12p eX12_slh_68 (hN 49 (by decide)) rfl rfl rfl (Nat.le_of_ble_eq_true rfl) rfl ?_
  refine v_aload_n C eX12_slh_71 rfl 0 rfl ?_
  refine v_iload_n C eX12_slh_72 rfl 2 rfl ?_
  refine v_if_eq (tgt := 81) C eX12_slh_73 (by decide) (fun h => absurd h (ix_ne (a := 1 % 6) (b := 0) (ht1.trans (ix_rem (a := 1) (d := 6) (rfl : nI 1 = nI 1) (rfl : (6 : Int32) = nI 6) (by omega) (by omega) (by omega))) (rfl : (0 : Int32) = nI 0) (by omega) (by omega) (by omega))) (fun _ => ?_)
  refine v_iload_n C eX12_slh_76 rfl 2 rfl ?_
  refine v_iconst (v := (2 : Int32)) C eX12_slh_77 (by decide) ?_
  refine v_icmp_ne (tgt := 86) C eX12_slh_78 (by decide) (fun _ => ?_) (fun h => absurd h (ix_ne (a := 1 % 6) (b := 2) (ht1.trans (ix_rem (a := 1) (d := 6) (rfl : nI 1 = nI 1) (rfl : (6 : Int32) = nI 6) (by omega) (by omega) (by omega))) (rfl : (2 : Int32) = nI 2) (by omega) (by omega) (by omega)))
  refine v_iload_n C eX12_slh_86 rfl 2 rfl ?_
  refine v_iconst (v := (4 : Int32)) C eX12_slh_87 (by decide) ?_
  refine v_icmp_ne (tgt := 96) C eX12_slh_88 (by decide) (fun _ => ?_) (fun h => absurd h (ix_ne (a := 1 % 6) (b := 4) (ht1.trans (ix_rem (a := 1) (d := 6) (rfl : nI 1 = nI 1) (rfl : (6 : Int32) = nI 6) (by omega) (by omega) (by omega))) (rfl : (4 : Int32) = nI 4) (by omega) (by omega) (by omega)))
  refine v_iload_n C eX12_slh_96 rfl 2 rfl ?_
  refine v_iconst (v := (5 : Int32)) C eX12_slh_97 (by decide) ?_
  refine v_icmp_ne (tgt := 106) C eX12_slh_98 (by decide) (fun _ => ?_) (fun h => absurd h (ix_ne (a := 1 % 6) (b := 5) (ht1.trans (ix_rem (a := 1) (d := 6) (rfl : nI 1 = nI 1) (rfl : (6 : Int32) = nI 6) (by omega) (by omega) (by omega))) (rfl : (5 : Int32) = nI 5) (by omega) (by omega) (by omega)))
  refine v_bipush (v := (22 : Int32)) C eX12_slh_106 (by decide) ?_
  refine n_put (fs' := mO ad (upd (upd (upd ((ox σ)) 41 ((16 : Int32))) 42 ((66 : Int32))) 43 ((22 : Int32))) ((ot σ))) C I fX12_249_X12p eX12_slh_108 (hN 49 (by decide)) rfl rfl rfl (Nat.le_of_ble_eq_true rfl) rfl ?_
  refine v_aload_n C eX12_slh_111 rfl 0 rfl ?_
  refine v_iload_n C eX12_slh_112 rfl 2 rfl ?_
  refine v_if_ne (tgt := 121) C eX12_slh_113 (by decide) (fun _ => ?_) (fun h => absurd h (ix_ne (a := 1 % 6) (b := 0) (ht1.trans (ix_rem (a := 1) (d := 6) (rfl : nI 1 = nI 1) (rfl : (6 : Int32) = nI 6) (by omega) (by omega) (by omega))) (rfl : (0 : Int32) = nI 0) (by omega) (by omega) (by omega)))
  refine v_iload_n C eX12_slh_121 rfl 2 rfl ?_
  refine v_iconst (v := (1 : Int32)) C eX12_slh_122 (by decide) ?_
  refine v_icmp_ne (tgt := 131) C eX12_slh_123 (by decide) (fun h => absurd (ix_eq (a := 1 % 6) (b := 1) (ht1.trans (ix_rem (a := 1) (d := 6) (rfl : nI 1 = nI 1) (rfl : (6 : Int32) = nI 6) (by omega) (by omega) (by omega))) (rfl : (1 : Int32) = nI 1) (by omega) (by omega) (by omega)) h) (fun _ => ?_)
  refine v_bipush (v := (6 : Int32)) C eX12_slh_126 (by decide) ?_
  refine v_goto (tgt := 158) C eX12_slh_128 (by decide) ?_
  refine n_put (fs' := mO ad (upd (upd (upd (upd ((ox σ)) 41 ((16 : Int32))) 42 ((66 : Int32))) 43 ((22 : Int32))) 45 ((6 : Int32))) ((ot σ))) C I fX12_252_X12p eX12_slh_158 (hN 49 (by decide)) rfl rfl rfl (Nat.le_of_ble_eq_true rfl) rfl ?_
  refine v_aload_n C eX12_slh_161 rfl 0 rfl ?_
  refine v_iload_n C eX12_slh_162 rfl 2 rfl ?_
  refine v_if_ne (tgt := 171) C eX12_slh_163 (by decide) (fun _ => ?_) (fun h => absurd h (ix_ne (a := 1 % 6) (b := 0) (ht1.trans (ix_rem (a := 1) (d := 6) (rfl : nI 1 = nI 1) (rfl : (6 : Int32) = nI 6) (by omega) (by omega) (by omega))) (rfl : (0 : Int32) = nI 0) (by omega) (by omega) (by omega)))
  refine v_iload_n C eX12_slh_171 rfl 2 rfl ?_
  refine v_iconst (v := (1 : Int32)) C eX12_slh_172 (by decide) ?_
  refine v_icmp_eq (tgt := 181) C eX12_slh_173 (by decide) (fun _ => ?_) (fun h => absurd (ix_eq (a := 1 % 6) (b := 1) (ht1.trans (ix_rem (a := 1) (d := 6) (rfl : nI 1 = nI 1) (rfl : (6 : Int32) = nI 6) (by omega) (by omega) (by omega))) (rfl : (1 : Int32) = nI 1) (by omega) (by omega) (by omega)) h)
  refine v_bipush (v := (33 : Int32)) C eX12_slh_181 (by decide) ?_
  refine v_goto (tgt := 208) C eX12_slh_183 (by decide) ?_
  refine n_put (fs' := mO ad (upd (upd (upd (upd (upd ((ox σ)) 41 ((16 : Int32))) 42 ((66 : Int32))) 43 ((22 : Int32))) 45 ((6 : Int32))) 46 ((33 : Int32))) ((ot σ))) C I fX12_255_X12p eX12_slh_208 (hN 49 (by decide)) rfl rfl rfl (Nat.le_of_ble_eq_true rfl) rfl ?_
  refine v_aload_n C eX12_slh_211 rfl 0 rfl ?_
  refine v_aload_n C eX12_slh_212 rfl 0 rfl ?_
  refine n_get C I fX12_246_X12 eX12_slh_213 (hN 49 (by decide)) rfl rfl ?_
  refine v_aload_n C eX12_slh_216 rfl 0 rfl ?_
  refine n_get C I fX12_249_X12 eX12_slh_217 (hN 49 (by decide)) rfl rfl ?_
  refine v_idiv C eX12_slh_220 (show ¬ (22 : Int32) = 0 by decide) ?_
  refine n_put (fs' := mO ad (upd (upd (upd (upd (upd (upd ((ox σ)) 41 ((16 : Int32))) 42 ((66 : Int32))) 43 ((22 : Int32))) 44 (((66 : Int32)) / ((22 : Int32)))) 45 ((6 : Int32))) 46 ((33 : Int32))) ((ot σ))) C I fX12_258_X12p eX12_slh_221 (hN 49 (by decide)) rfl rfl rfl (Nat.le_of_ble_eq_true rfl) rfl ?_
  refine v_aload_n C eX12_slh_224 rfl 0 rfl ?_
  refine v_iconst (v := (2 : Int32)) C eX12_slh_225 (by decide) ?_
  refine v_aload_n C eX12_slh_226 rfl 0 rfl ?_
  refine n_get C I fX12_243_X12 eX12_slh_227 (hN 49 (by decide)) rfl rfl ?_
  refine v_imul C eX12_slh_230 ?_
  refine v_iconst (v := (3 : Int32)) C eX12_slh_231 (by decide) ?_
  refine v_iadd C eX12_slh_232 ?_
  refine n_put (fs' := mO ad (upd (upd (upd (upd (upd (upd (upd ((ox σ)) 41 ((16 : Int32))) 42 ((66 : Int32))) 43 ((22 : Int32))) 44 (((66 : Int32)) / ((22 : Int32)))) 45 ((6 : Int32))) 46 ((33 : Int32))) 47 ((((2 : Int32)) * ((16 : Int32))) + ((3 : Int32)))) ((ot σ))) C I fX12_261_X12p eX12_slh_233 (hN 49 (by decide)) rfl rfl rfl (Nat.le_of_ble_eq_true rfl) rfl ?_
  refine v_aload_n C eX12_slh_236 rfl 0 rfl ?_
  refine v_iload_n C eX12_slh_237 rfl 1 rfl ?_
  refine v_bipush (v := (6 : Int32)) C eX12_slh_238 (by decide) ?_
  refine v_icmp_ge (tgt := 247) C eX12_slh_240 (by decide) (fun h => absurd h (ix_nle (a := 6) (b := 1) (rfl : (6 : Int32) = nI 6) (rfl : nI 1 = nI 1) (by omega) (by omega) (by omega))) (fun _ => ?_)
  refine v_iconst (v := (1 : Int32)) C eX12_slh_243 (by decide) ?_
  refine v_goto (tgt := 248) C eX12_slh_244 (by decide) ?_
  refine n_put (fs' := mO ad (upd (upd (upd (upd (upd (upd (upd (upd ((ox σ)) 41 ((16 : Int32))) 42 ((66 : Int32))) 43 ((22 : Int32))) 44 (((66 : Int32)) / ((22 : Int32)))) 45 ((6 : Int32))) 46 ((33 : Int32))) 47 ((((2 : Int32)) * ((16 : Int32))) + ((3 : Int32)))) 48 ((1 : Int32))) ((ot σ))) C I fX12_264_X12p eX12_slh_248 (hN 49 (by decide)) rfl rfl rfl (Nat.le_of_ble_eq_true rfl) rfl ?_
  refine v_eq (w' := nW ad N (va_up σ 49 (eO 9 (mO ad (upd (upd (upd (upd (upd (upd (upd (upd ((ox σ)) 41 ((16 : Int32))) 42 ((66 : Int32))) 43 ((22 : Int32))) 44 (((66 : Int32)) / ((22 : Int32)))) 45 ((6 : Int32))) 46 ((33 : Int32))) 47 ((((2 : Int32)) * ((16 : Int32))) + ((3 : Int32)))) 48 ((1 : Int32))) ((ot σ)))))) (congrArg (nW ad N) (n_extL [49] ⟨rfl, trivial⟩ (fun q h => by simp only [List.mem_cons, List.not_mem_nil, or_false, not_or] at h; simp [va_up, h]))) rfl rfl ?_
  refine v_pic (fun ρ hρ => ?_)
  have hC1 : RS G ad θ (xS x 1) ρ := by
    rw [hρ]; exact hC.upO ⟨hC.i3, hC.i4, (show ((16 : Int32) : Int32) = nI 16 by decide), (show ((66 : Int32) : Int32) = nI 66 by decide), (show ((22 : Int32) : Int32) = nI 22 by decide), (show (((66 : Int32)) / ((22 : Int32)) : Int32) = nI 3 by decide), (show ((6 : Int32) : Int32) = nI 6 by decide), (show ((33 : Int32) : Int32) = nI 33 by decide), (show ((((2 : Int32)) * ((16 : Int32))) + ((3 : Int32)) : Int32) = nI 35 by decide), (show ((1 : Int32) : Int32) = 1 by decide)⟩
  have hk1 : ∀ k, ¬ (k = 28 ∨ k = 49) → ρ k = σ k := fun k hk => by rw [hρ]; exact n_ne (by omega)
  refine v_iconst (v := nI 0) C eX12_slh_251 (by decide) ?_
  refine v_istore_n (lv' := [(0, .ref (ad 49)), (1, .int (nI 1)), (2, .int t1), (3, .int (nI 0))]) C eX12_slh_252 rfl (by decide) [1, 2, 3, 0] rfl ?_
  refine v_pick (lv' := [(0, .ref (ad 49)), (1, .int (nI 1)), (3, .int (nI 0))]) [0, 1, 3] rfl ?_
  refine v_forP (fun j τ => RS G ad θ (xS x 1) τ ∧ (∀ k, ¬ (k = 28 ∨ k = 49) → τ k = σ k)) (fun j => [(0, .ref (ad 49)), (1, .int (nI 1)), (3, .int (nI j))]) 32 ?_ ?_ _ ⟨hC1, hk1⟩
  · intro τ hI
    obtain ⟨hC2, hk2⟩ := hI
    refine v_iload_n C eX12_slh_253 rfl 2 rfl ?_
    refine v_bipush (v := (32 : Int32)) C eX12_slh_254 (by decide) ?_
    refine v_icmp_ge (tgt := 272) C eX12_slh_256 (by decide) (fun _ => ?_) (fun h => absurd (ix_le (a := 32) (b := 32) (rfl : (32 : Int32) = nI 32) (rfl : nI 32 = nI 32) (by omega) (by omega) (by omega)) h)
    exact n_vret C rfl eX12_slh_272 ⟨rfl, hC2, hk2⟩
  · intro j hj ih τ hI
    obtain ⟨hC2, hk2⟩ := hI
    refine v_iload_n C eX12_slh_253 rfl 2 rfl ?_
    refine v_bipush (v := (32 : Int32)) C eX12_slh_254 (by decide) ?_
    refine v_icmp_ge (tgt := 272) C eX12_slh_256 (by decide) (fun h => absurd h (ix_nle (a := 32) (b := j) (rfl : (32 : Int32) = nI 32) (rfl : nI j = nI j) (by omega) (by omega) (by omega))) (fun _ => ?_)
    refine v_aload_n C eX12_slh_259 rfl 0 rfl ?_
    refine n_get C I fX12_81_X12 eX12_slh_260 (hN 49 (by decide)) hC2.obj rfl ?_
    refine v_iload_n C eX12_slh_263 rfl 2 rfl ?_
    refine v_iconst (v := (0 : Int32)) C eX12_slh_264 (by decide) ?_
    refine n_bast C I eX12_slh_265 (hN 28 (by decide)) (hC2.b 28 32 rfl (by decide)) j (rfl : nI j = nI j) (by omega) (by decide) ?_
    refine v_iinc (lv' := [(0, .ref (ad 49)), (1, .int (nI 1)), (3, .int (nI (j + 1)))]) C eX12_slh_266 2 rfl (ix_inc _) (by decide) [1, 2, 0] rfl ?_
    refine v_goto (tgt := 253) C eX12_slh_269 (by decide) ?_
    exact ih _ ⟨hC2.up rfl (by decide) _, fun k hk => (n_ne (by omega)).trans (hk2 k hk)⟩

set_option maxRecDepth 100000 in
set_option maxHeartbeats 4000000 in
theorem rs_slh2 (I : nI1 ad N) (hN : ∀ k, k < 74 → k < N) (hC : RS G ad θ x σ) : nOk G B l ad N yX12_slh cX12_slh 4 none 0 0 0 [.ref (ad 49), .int (nI 2)] σ (fun r σ' => r = none ∧ RS G ad θ (xS x 2) σ' ∧ (∀ k, ¬ (k = 28 ∨ k = 49) → σ' k = σ k)) := by
  refine vOk.of (by decide +kernel) (Nat.le_of_ble_eq_true rfl) ?_
  intro p e s m args below meth c C
  refine v_eq (lv' := [(0, .ref (ad 49)), (1, .int (nI 2))]) rfl rfl rfl ?_
  refine v_iload_n C eX12_slh_0 rfl 1 rfl ?_
  refine v_bipush (v := (6 : Int32)) C eX12_slh_1 (by decide) ?_
  refine v_irem C eX12_slh_3 (by decide) ?_
  refine v_topi (fun t1 ht1 => ?_)
  refine v_istore_n (lv' := [(0, .ref (ad 49)), (1, .int (nI 2)), (2, .int t1)]) C eX12_slh_4 rfl (by decide) [1, 2, 0] rfl ?_
  refine v_aload_n C eX12_slh_5 rfl 0 rfl ?_
  refine v_iload_n C eX12_slh_6 rfl 2 rfl ?_
  refine v_iconst (v := (2 : Int32)) C eX12_slh_7 (by decide) ?_
  refine v_icmp_ge (tgt := 16) C eX12_slh_8 (by decide) (fun _ => ?_) (fun h => absurd (ix_le (a := 2) (b := 2 % 6) (rfl : (2 : Int32) = nI 2) (ht1.trans (ix_rem (a := 2) (d := 6) (rfl : nI 2 = nI 2) (rfl : (6 : Int32) = nI 6) (by omega) (by omega) (by omega))) (by omega) (by omega) (by omega)) h)
  refine v_iload_n C eX12_slh_16 rfl 2 rfl ?_
  refine v_iconst (v := (4 : Int32)) C eX12_slh_17 (by decide) ?_
  refine v_icmp_ge (tgt := 26) C eX12_slh_18 (by decide) (fun h => absurd h (ix_nle (a := 4) (b := 2 % 6) (rfl : (4 : Int32) = nI 4) (ht1.trans (ix_rem (a := 2) (d := 6) (rfl : nI 2 = nI 2) (rfl : (6 : Int32) = nI 6) (by omega) (by omega) (by omega))) (by omega) (by omega) (by omega))) (fun _ => ?_)
  refine v_bipush (v := (24 : Int32)) C eX12_slh_21 (by decide) ?_
  refine v_goto (tgt := 28) C eX12_slh_23 (by decide) ?_
  refine n_put (fs' := mO ad (upd ((ox σ)) 41 ((24 : Int32))) ((ot σ))) C I fX12_243_X12p eX12_slh_28 (hN 49 (by decide)) hC.obj rfl rfl (Nat.le_of_ble_eq_true rfl) rfl ?_
  refine v_aload_n C eX12_slh_31 rfl 0 rfl ?_
  refine v_iload_n C eX12_slh_32 rfl 2 rfl ?_
  refine v_if_eq (tgt := 41) C eX12_slh_33 (by decide) (fun h => absurd h (ix_ne (a := 2 % 6) (b := 0) (ht1.trans (ix_rem (a := 2) (d := 6) (rfl : nI 2 = nI 2) (rfl : (6 : Int32) = nI 6) (by omega) (by omega) (by omega))) (rfl : (0 : Int32) = nI 0) (by omega) (by omega) (by omega))) (fun _ => ?_)
  refine v_iload_n C eX12_slh_36 rfl 2 rfl ?_
  refine v_iconst (v := (2 : Int32)) C eX12_slh_37 (by decide) ?_
  refine v_icmp_ne (tgt := 46) C eX12_slh_38 (by decide) (fun h => absurd (ix_eq (a := 2 % 6) (b := 2) (ht1.trans (ix_rem (a := 2) (d := 6) (rfl : nI 2 = nI 2) (rfl : (6 : Int32) = nI 6) (by omega) (by omega) (by omega))) (rfl : (2 : Int32) = nI 2) (by omega) (by omega) (by omega)) h) (fun _ => ?_)
  refine v_bipush (v := (63 : Int32)) C eX12_slh_41 (by decide) ?_
  refine v_goto (tgt := 68) C eX12_slh_43 (by decide) ?_
  refine n_put (fs' := mO ad (upd (upd ((ox σ)) 41 ((24 : Int32))) 42 ((63 : Int32))) ((ot σ))) C I fX12_246_X12p eX12_slh_68 (hN 49 (by decide)) rfl rfl rfl (Nat.le_of_ble_eq_true rfl) rfl ?_
  refine v_aload_n C eX12_slh_71 rfl 0 rfl ?_
  refine v_iload_n C eX12_slh_72 rfl 2 rfl ?_
  refine v_if_eq (tgt := 81) C eX12_slh_73 (by decide) (fun h => absurd h (ix_ne (a := 2 % 6) (b := 0) (ht1.trans (ix_rem (a := 2) (d := 6) (rfl : nI 2 = nI 2) (rfl : (6 : Int32) = nI 6) (by omega) (by omega) (by omega))) (rfl : (0 : Int32) = nI 0) (by omega) (by omega) (by omega))) (fun _ => ?_)
  refine v_iload_n C eX12_slh_76 rfl 2 rfl ?_
  refine v_iconst (v := (2 : Int32)) C eX12_slh_77 (by decide) ?_
  refine v_icmp_ne (tgt := 86) C eX12_slh_78 (by decide) (fun h => absurd (ix_eq (a := 2 % 6) (b := 2) (ht1.trans (ix_rem (a := 2) (d := 6) (rfl : nI 2 = nI 2) (rfl : (6 : Int32) = nI 6) (by omega) (by omega) (by omega))) (rfl : (2 : Int32) = nI 2) (by omega) (by omega) (by omega)) h) (fun _ => ?_)
  refine v_bipush (v := (7 : Int32)) C eX12_slh_81 (by decide) ?_
  refine v_goto (tgt := 108) C eX12_slh_83 (by decide) ?_
  refine n_put (fs' := mO ad (upd (upd (upd ((ox σ)) 41 ((24 : Int32))) 42 ((63 : Int32))) 43 ((7 : Int32))) ((ot σ))) C I fX12_249_X12p eX12_slh_108 (hN 49 (by decide)) rfl rfl rfl (Nat.le_of_ble_eq_true rfl) rfl ?_
  refine v_aload_n C eX12_slh_111 rfl 0 rfl ?_
  refine v_iload_n C eX12_slh_112 rfl 2 rfl ?_
  refine v_if_ne (tgt := 121) C eX12_slh_113 (by decide) (fun _ => ?_) (fun h => absurd h (ix_ne (a := 2 % 6) (b := 0) (ht1.trans (ix_rem (a := 2) (d := 6) (rfl : nI 2 = nI 2) (rfl : (6 : Int32) = nI 6) (by omega) (by omega) (by omega))) (rfl : (0 : Int32) = nI 0) (by omega) (by omega) (by omega)))
  refine v_iload_n C eX12_slh_121 rfl 2 rfl ?_
  refine v_iconst (v := (1 : Int32)) C eX12_slh_122 (by decide) ?_
  refine v_icmp_ne (tgt := 131) C eX12_slh_123 (by decide) (fun _ => ?_) (fun h => absurd h (ix_ne (a := 2 % 6) (b := 1) (ht1.trans (ix_rem (a := 2) (d := 6) (rfl : nI 2 = nI 2) (rfl : (6 : Int32) = nI 6) (by omega) (by omega) (by omega))) (rfl : (1 : Int32) = nI 1) (by omega) (by omega) (by omega)))
  refine v_iload_n C eX12_slh_131 rfl 2 rfl ?_
  refine v_iconst (v := (2 : Int32)) C eX12_slh_132 (by decide) ?_
  refine v_icmp_eq (tgt := 141) C eX12_slh_133 (by decide) (fun _ => ?_) (fun h => absurd (ix_eq (a := 2 % 6) (b := 2) (ht1.trans (ix_rem (a := 2) (d := 6) (rfl : nI 2 = nI 2) (rfl : (6 : Int32) = nI 6) (by omega) (by omega) (by omega))) (rfl : (2 : Int32) = nI 2) (by omega) (by omega) (by omega)) h)
  refine v_bipush (v := (14 : Int32)) C eX12_slh_141 (by decide) ?_
  refine v_goto (tgt := 158) C eX12_slh_143 (by decide) ?_
  refine n_put (fs' := mO ad (upd (upd (upd (upd ((ox σ)) 41 ((24 : Int32))) 42 ((63 : Int32))) 43 ((7 : Int32))) 45 ((14 : Int32))) ((ot σ))) C I fX12_252_X12p eX12_slh_158 (hN 49 (by decide)) rfl rfl rfl (Nat.le_of_ble_eq_true rfl) rfl ?_
  refine v_aload_n C eX12_slh_161 rfl 0 rfl ?_
  refine v_iload_n C eX12_slh_162 rfl 2 rfl ?_
  refine v_if_ne (tgt := 171) C eX12_slh_163 (by decide) (fun _ => ?_) (fun h => absurd h (ix_ne (a := 2 % 6) (b := 0) (ht1.trans (ix_rem (a := 2) (d := 6) (rfl : nI 2 = nI 2) (rfl : (6 : Int32) = nI 6) (by omega) (by omega) (by omega))) (rfl : (0 : Int32) = nI 0) (by omega) (by omega) (by omega)))
  refine v_iload_n C eX12_slh_171 rfl 2 rfl ?_
  refine v_iconst (v := (1 : Int32)) C eX12_slh_172 (by decide) ?_
  refine v_icmp_eq (tgt := 181) C eX12_slh_173 (by decide) (fun h => absurd h (ix_ne (a := 2 % 6) (b := 1) (ht1.trans (ix_rem (a := 2) (d := 6) (rfl : nI 2 = nI 2) (rfl : (6 : Int32) = nI 6) (by omega) (by omega) (by omega))) (rfl : (1 : Int32) = nI 1) (by omega) (by omega) (by omega))) (fun _ => ?_)
  refine v_iload_n C eX12_slh_176 rfl 2 rfl ?_
  refine v_iconst (v := (3 : Int32)) C eX12_slh_177 (by decide) ?_
  refine v_icmp_ne (tgt := 186) C eX12_slh_178 (by decide) (fun _ => ?_) (fun h => absurd h (ix_ne (a := 2 % 6) (b := 3) (ht1.trans (ix_rem (a := 2) (d := 6) (rfl : nI 2 = nI 2) (rfl : (6 : Int32) = nI 6) (by omega) (by omega) (by omega))) (rfl : (3 : Int32) = nI 3) (by omega) (by omega) (by omega)))
  refine v_iload_n C eX12_slh_186 rfl 2 rfl ?_
  refine v_iconst (v := (2 : Int32)) C eX12_slh_187 (by decide) ?_
  refine v_icmp_ne (tgt := 196) C eX12_slh_188 (by decide) (fun h => absurd (ix_eq (a := 2 % 6) (b := 2) (ht1.trans (ix_rem (a := 2) (d := 6) (rfl : nI 2 = nI 2) (rfl : (6 : Int32) = nI 6) (by omega) (by omega) (by omega))) (rfl : (2 : Int32) = nI 2) (by omega) (by omega) (by omega)) h) (fun _ => ?_)
  refine v_bipush (v := (17 : Int32)) C eX12_slh_191 (by decide) ?_
  refine v_goto (tgt := 208) C eX12_slh_193 (by decide) ?_
  refine n_put (fs' := mO ad (upd (upd (upd (upd (upd ((ox σ)) 41 ((24 : Int32))) 42 ((63 : Int32))) 43 ((7 : Int32))) 45 ((14 : Int32))) 46 ((17 : Int32))) ((ot σ))) C I fX12_255_X12p eX12_slh_208 (hN 49 (by decide)) rfl rfl rfl (Nat.le_of_ble_eq_true rfl) rfl ?_
  refine v_aload_n C eX12_slh_211 rfl 0 rfl ?_
  refine v_aload_n C eX12_slh_212 rfl 0 rfl ?_
  refine n_get C I fX12_246_X12 eX12_slh_213 (hN 49 (by decide)) rfl rfl ?_
  refine v_aload_n C eX12_slh_216 rfl 0 rfl ?_
  refine n_get C I fX12_249_X12 eX12_slh_217 (hN 49 (by decide)) rfl rfl ?_
  refine v_idiv C eX12_slh_220 (show ¬ (7 : Int32) = 0 by decide) ?_
  refine n_put (fs' := mO ad (upd (upd (upd (upd (upd (upd ((ox σ)) 41 ((24 : Int32))) 42 ((63 : Int32))) 43 ((7 : Int32))) 44 (((63 : Int32)) / ((7 : Int32)))) 45 ((14 : Int32))) 46 ((17 : Int32))) ((ot σ))) C I fX12_258_X12p eX12_slh_221 (hN 49 (by decide)) rfl rfl rfl (Nat.le_of_ble_eq_true rfl) rfl ?_
  refine v_aload_n C eX12_slh_224 rfl 0 rfl ?_
  refine v_iconst (v := (2 : Int32)) C eX12_slh_225 (by decide) ?_
  refine v_aload_n C eX12_slh_226 rfl 0 rfl ?_
  refine n_get C I fX12_243_X12 eX12_slh_227 (hN 49 (by decide)) rfl rfl ?_
  refine v_imul C eX12_slh_230 ?_
  refine v_iconst (v := (3 : Int32)) C eX12_slh_231 (by decide) ?_
  refine v_iadd C eX12_slh_232 ?_
  refine n_put (fs' := mO ad (upd (upd (upd (upd (upd (upd (upd ((ox σ)) 41 ((24 : Int32))) 42 ((63 : Int32))) 43 ((7 : Int32))) 44 (((63 : Int32)) / ((7 : Int32)))) 45 ((14 : Int32))) 46 ((17 : Int32))) 47 ((((2 : Int32)) * ((24 : Int32))) + ((3 : Int32)))) ((ot σ))) C I fX12_261_X12p eX12_slh_233 (hN 49 (by decide)) rfl rfl rfl (Nat.le_of_ble_eq_true rfl) rfl ?_
  refine v_aload_n C eX12_slh_236 rfl 0 rfl ?_
  refine v_iload_n C eX12_slh_237 rfl 1 rfl ?_
  refine v_bipush (v := (6 : Int32)) C eX12_slh_238 (by decide) ?_
  refine v_icmp_ge (tgt := 247) C eX12_slh_240 (by decide) (fun h => absurd h (ix_nle (a := 6) (b := 2) (rfl : (6 : Int32) = nI 6) (rfl : nI 2 = nI 2) (by omega) (by omega) (by omega))) (fun _ => ?_)
  refine v_iconst (v := (1 : Int32)) C eX12_slh_243 (by decide) ?_
  refine v_goto (tgt := 248) C eX12_slh_244 (by decide) ?_
  refine n_put (fs' := mO ad (upd (upd (upd (upd (upd (upd (upd (upd ((ox σ)) 41 ((24 : Int32))) 42 ((63 : Int32))) 43 ((7 : Int32))) 44 (((63 : Int32)) / ((7 : Int32)))) 45 ((14 : Int32))) 46 ((17 : Int32))) 47 ((((2 : Int32)) * ((24 : Int32))) + ((3 : Int32)))) 48 ((1 : Int32))) ((ot σ))) C I fX12_264_X12p eX12_slh_248 (hN 49 (by decide)) rfl rfl rfl (Nat.le_of_ble_eq_true rfl) rfl ?_
  refine v_eq (w' := nW ad N (va_up σ 49 (eO 9 (mO ad (upd (upd (upd (upd (upd (upd (upd (upd ((ox σ)) 41 ((24 : Int32))) 42 ((63 : Int32))) 43 ((7 : Int32))) 44 (((63 : Int32)) / ((7 : Int32)))) 45 ((14 : Int32))) 46 ((17 : Int32))) 47 ((((2 : Int32)) * ((24 : Int32))) + ((3 : Int32)))) 48 ((1 : Int32))) ((ot σ)))))) (congrArg (nW ad N) (n_extL [49] ⟨rfl, trivial⟩ (fun q h => by simp only [List.mem_cons, List.not_mem_nil, or_false, not_or] at h; simp [va_up, h]))) rfl rfl ?_
  refine v_pic (fun ρ hρ => ?_)
  have hC1 : RS G ad θ (xS x 2) ρ := by
    rw [hρ]; exact hC.upO ⟨hC.i3, hC.i4, (show ((24 : Int32) : Int32) = nI 24 by decide), (show ((63 : Int32) : Int32) = nI 63 by decide), (show ((7 : Int32) : Int32) = nI 7 by decide), (show (((63 : Int32)) / ((7 : Int32)) : Int32) = nI 9 by decide), (show ((14 : Int32) : Int32) = nI 14 by decide), (show ((17 : Int32) : Int32) = nI 17 by decide), (show ((((2 : Int32)) * ((24 : Int32))) + ((3 : Int32)) : Int32) = nI 51 by decide), (show ((1 : Int32) : Int32) = 1 by decide)⟩
  have hk1 : ∀ k, ¬ (k = 28 ∨ k = 49) → ρ k = σ k := fun k hk => by rw [hρ]; exact n_ne (by omega)
  refine v_iconst (v := nI 0) C eX12_slh_251 (by decide) ?_
  refine v_istore_n (lv' := [(0, .ref (ad 49)), (1, .int (nI 2)), (2, .int t1), (3, .int (nI 0))]) C eX12_slh_252 rfl (by decide) [1, 2, 3, 0] rfl ?_
  refine v_pick (lv' := [(0, .ref (ad 49)), (1, .int (nI 2)), (3, .int (nI 0))]) [0, 1, 3] rfl ?_
  refine v_forP (fun j τ => RS G ad θ (xS x 2) τ ∧ (∀ k, ¬ (k = 28 ∨ k = 49) → τ k = σ k)) (fun j => [(0, .ref (ad 49)), (1, .int (nI 2)), (3, .int (nI j))]) 32 ?_ ?_ _ ⟨hC1, hk1⟩
  · intro τ hI
    obtain ⟨hC2, hk2⟩ := hI
    refine v_iload_n C eX12_slh_253 rfl 2 rfl ?_
    refine v_bipush (v := (32 : Int32)) C eX12_slh_254 (by decide) ?_
    refine v_icmp_ge (tgt := 272) C eX12_slh_256 (by decide) (fun _ => ?_) (fun h => absurd (ix_le (a := 32) (b := 32) (rfl : (32 : Int32) = nI 32) (rfl : nI 32 = nI 32) (by omega) (by omega) (by omega)) h)
    exact n_vret C rfl eX12_slh_272 ⟨rfl, hC2, hk2⟩
  · intro j hj ih τ hI
    obtain ⟨hC2, hk2⟩ := hI
    refine v_iload_n C eX12_slh_253 rfl 2 rfl ?_
    refine v_bipush (v := (32 : Int32)) C eX12_slh_254 (by decide) ?_
    refine v_icmp_ge (tgt := 272) C eX12_slh_256 (by decide) (fun h => absurd h (ix_nle (a := 32) (b := j) (rfl : (32 : Int32) = nI 32) (rfl : nI j = nI j) (by omega) (by omega) (by omega))) (fun _ => ?_)
    refine v_aload_n C eX12_slh_259 rfl 0 rfl ?_
    refine n_get C I fX12_81_X12 eX12_slh_260 (hN 49 (by decide)) hC2.obj rfl ?_
    refine v_iload_n C eX12_slh_263 rfl 2 rfl ?_
    refine v_iconst (v := (0 : Int32)) C eX12_slh_264 (by decide) ?_
    refine n_bast C I eX12_slh_265 (hN 28 (by decide)) (hC2.b 28 32 rfl (by decide)) j (rfl : nI j = nI j) (by omega) (by decide) ?_
    refine v_iinc (lv' := [(0, .ref (ad 49)), (1, .int (nI 2)), (3, .int (nI (j + 1)))]) C eX12_slh_266 2 rfl (ix_inc _) (by decide) [1, 2, 0] rfl ?_
    refine v_goto (tgt := 253) C eX12_slh_269 (by decide) ?_
    exact ih _ ⟨hC2.up rfl (by decide) _, fun k hk => (n_ne (by omega)).trans (hk2 k hk)⟩

set_option maxRecDepth 100000 in
set_option maxHeartbeats 4000000 in
theorem rs_slh3 (I : nI1 ad N) (hN : ∀ k, k < 74 → k < N) (hC : RS G ad θ x σ) : nOk G B l ad N yX12_slh cX12_slh 4 none 0 0 0 [.ref (ad 49), .int (nI 3)] σ (fun r σ' => r = none ∧ RS G ad θ (xS x 3) σ' ∧ (∀ k, ¬ (k = 28 ∨ k = 49) → σ' k = σ k)) := by
  refine vOk.of (by decide +kernel) (Nat.le_of_ble_eq_true rfl) ?_
  intro p e s m args below meth c C
  refine v_eq (lv' := [(0, .ref (ad 49)), (1, .int (nI 3))]) rfl rfl rfl ?_
  refine v_iload_n C eX12_slh_0 rfl 1 rfl ?_
  refine v_bipush (v := (6 : Int32)) C eX12_slh_1 (by decide) ?_
  refine v_irem C eX12_slh_3 (by decide) ?_
  refine v_topi (fun t1 ht1 => ?_)
  refine v_istore_n (lv' := [(0, .ref (ad 49)), (1, .int (nI 3)), (2, .int t1)]) C eX12_slh_4 rfl (by decide) [1, 2, 0] rfl ?_
  refine v_aload_n C eX12_slh_5 rfl 0 rfl ?_
  refine v_iload_n C eX12_slh_6 rfl 2 rfl ?_
  refine v_iconst (v := (2 : Int32)) C eX12_slh_7 (by decide) ?_
  refine v_icmp_ge (tgt := 16) C eX12_slh_8 (by decide) (fun _ => ?_) (fun h => absurd (ix_le (a := 2) (b := 3 % 6) (rfl : (2 : Int32) = nI 2) (ht1.trans (ix_rem (a := 3) (d := 6) (rfl : nI 3 = nI 3) (rfl : (6 : Int32) = nI 6) (by omega) (by omega) (by omega))) (by omega) (by omega) (by omega)) h)
  refine v_iload_n C eX12_slh_16 rfl 2 rfl ?_
  refine v_iconst (v := (4 : Int32)) C eX12_slh_17 (by decide) ?_
  refine v_icmp_ge (tgt := 26) C eX12_slh_18 (by decide) (fun h => absurd h (ix_nle (a := 4) (b := 3 % 6) (rfl : (4 : Int32) = nI 4) (ht1.trans (ix_rem (a := 3) (d := 6) (rfl : nI 3 = nI 3) (rfl : (6 : Int32) = nI 6) (by omega) (by omega) (by omega))) (by omega) (by omega) (by omega))) (fun _ => ?_)
  refine v_bipush (v := (24 : Int32)) C eX12_slh_21 (by decide) ?_
  refine v_goto (tgt := 28) C eX12_slh_23 (by decide) ?_
  refine n_put (fs' := mO ad (upd ((ox σ)) 41 ((24 : Int32))) ((ot σ))) C I fX12_243_X12p eX12_slh_28 (hN 49 (by decide)) hC.obj rfl rfl (Nat.le_of_ble_eq_true rfl) rfl ?_
  refine v_aload_n C eX12_slh_31 rfl 0 rfl ?_
  refine v_iload_n C eX12_slh_32 rfl 2 rfl ?_
  refine v_if_eq (tgt := 41) C eX12_slh_33 (by decide) (fun h => absurd h (ix_ne (a := 3 % 6) (b := 0) (ht1.trans (ix_rem (a := 3) (d := 6) (rfl : nI 3 = nI 3) (rfl : (6 : Int32) = nI 6) (by omega) (by omega) (by omega))) (rfl : (0 : Int32) = nI 0) (by omega) (by omega) (by omega))) (fun _ => ?_)
  refine v_iload_n C eX12_slh_36 rfl 2 rfl ?_
  refine v_iconst (v := (2 : Int32)) C eX12_slh_37 (by decide) ?_
  refine v_icmp_ne (tgt := 46) C eX12_slh_38 (by decide) (fun _ => ?_) (fun h => absurd h (ix_ne (a := 3 % 6) (b := 2) (ht1.trans (ix_rem (a := 3) (d := 6) (rfl : nI 3 = nI 3) (rfl : (6 : Int32) = nI 6) (by omega) (by omega) (by omega))) (rfl : (2 : Int32) = nI 2) (by omega) (by omega) (by omega)))
  refine v_iload_n C eX12_slh_46 rfl 2 rfl ?_
  refine v_iconst (v := (4 : Int32)) C eX12_slh_47 (by decide) ?_
  refine v_icmp_ne (tgt := 56) C eX12_slh_48 (by decide) (fun _ => ?_) (fun h => absurd h (ix_ne (a := 3 % 6) (b := 4) (ht1.trans (ix_rem (a := 3) (d := 6) (rfl : nI 3 = nI 3) (rfl : (6 : Int32) = nI 6) (by omega) (by omega) (by omega))) (rfl : (4 : Int32) = nI 4) (by omega) (by omega) (by omega)))
  refine v_iload_n C eX12_slh_56 rfl 2 rfl ?_
  refine v_iconst (v := (5 : Int32)) C eX12_slh_57 (by decide) ?_
  refine v_icmp_ne (tgt := 66) C eX12_slh_58 (by decide) (fun _ => ?_) (fun h => absurd h (ix_ne (a := 3 % 6) (b := 5) (ht1.trans (ix_rem (a := 3) (d := 6) (rfl : nI 3 = nI 3) (rfl : (6 : Int32) = nI 6) (by omega) (by omega) (by omega))) (rfl : (5 : Int32) = nI 5) (by omega) (by omega) (by omega)))
  refine v_bipush (v := (66 : Int32)) C eX12_slh_66 (by decide) ?_
  refine n_put (fs' := mO ad (upd (upd ((ox σ)) 41 ((24 : Int32))) 42 ((66 : Int32))) ((ot σ))) C I fX12_246_X12p eX12_slh_68 (hN 49 (by decide)) rfl rfl rfl (Nat.le_of_ble_eq_true rfl) rfl ?_
  refine v_aload_n C eX12_slh_71 rfl 0 rfl ?_
  refine v_iload_n C eX12_slh_72 rfl 2 rfl ?_
  refine v_if_eq (tgt := 81) C eX12_slh_73 (by decide) (fun h => absurd h (ix_ne (a := 3 % 6) (b := 0) (ht1.trans (ix_rem (a := 3) (d := 6) (rfl : nI 3 = nI 3) (rfl : (6 : Int32) = nI 6) (by omega) (by omega) (by omega))) (rfl : (0 : Int32) = nI 0) (by omega) (by omega) (by omega))) (fun _ => ?_)
  refine v_iload_n C eX12_slh_76 rfl 2 rfl ?_
  refine v_iconst (v := (2 : Int32)) C eX12_slh_77 (by decide) ?_
  refine v_icmp_ne (tgt := 86) C eX12_slh_78 (by decide) (fun _ => ?_) (fun h => absurd h (ix_ne (a := 3 % 6) (b := 2) (ht1.trans (ix_rem (a := 3) (d := 6) (rfl : nI 3 = nI 3) (rfl : (6 : Int32) = nI 6) (by omega) (by omega) (by omega))) (rfl : (2 : Int32) = nI 2) (by omega) (by omega) (by omega)))
  refine v_iload_n C eX12_slh_86 rfl 2 rfl ?_
  refine v_iconst (v := (4 : Int32)) C eX12_slh_87 (by decide) ?_
  refine v_icmp_ne (tgt := 96) C eX12_slh_88 (by decide) (fun _ => ?_) (fun h => absurd h (ix_ne (a := 3 % 6) (b := 4) (ht1.trans (ix_rem (a := 3) (d := 6) (rfl : nI 3 = nI 3) (rfl : (6 : Int32) = nI 6) (by omega) (by omega) (by omega))) (rfl : (4 : Int32) = nI 4) (by omega) (by omega) (by omega)))
  refine v_iload_n C eX12_slh_96 rfl 2 rfl ?_
  refine v_iconst (v := (5 : Int32)) C eX12_slh_97 (by decide) ?_
  refine v_icmp_ne (tgt := 106) C eX12_slh_98 (by decide) (fun _ => ?_) (fun h => absurd h (ix_ne (a := 3 % 6) (b := 5) (ht1.trans (ix_rem (a := 3) (d := 6) (rfl : nI 3 = nI 3) (rfl : (6 : Int32) = nI 6) (by omega) (by omega) (by omega))) (rfl : (5 : Int32) = nI 5) (by omega) (by omega) (by omega)))
  refine v_bipush (v := (22 : Int32)) C eX12_slh_106 (by decide) ?_
  refine n_put (fs' := mO ad (upd (upd (upd ((ox σ)) 41 ((24 : Int32))) 42 ((66 : Int32))) 43 ((22 : Int32))) ((ot σ))) C I fX12_249_X12p eX12_slh_108 (hN 49 (by decide)) rfl rfl rfl (Nat.le_of_ble_eq_true rfl) rfl ?_
  refine v_aload_n C eX12_slh_111 rfl 0 rfl ?_
  refine v_iload_n C eX12_slh_112 rfl 2 rfl ?_
  refine v_if_ne (tgt := 121) C eX12_slh_113 (by decide) (fun _ => ?_) (fun h => absurd h (ix_ne (a := 3 % 6) (b := 0) (ht1.trans (ix_rem (a := 3) (d := 6) (rfl : nI 3 = nI 3) (rfl : (6 : Int32) = nI 6) (by omega) (by omega) (by omega))) (rfl : (0 : Int32) = nI 0) (by omega) (by omega) (by omega)))
  refine v_iload_n C eX12_slh_121 rfl 2 rfl ?_
  refine v_iconst (v := (1 : Int32)) C eX12_slh_122 (by decide) ?_
  refine v_icmp_ne (tgt := 131) C eX12_slh_123 (by decide) (fun _ => ?_) (fun h => absurd h (ix_ne (a := 3 % 6) (b := 1) (ht1.trans (ix_rem (a := 3) (d := 6) (rfl : nI 3 = nI 3) (rfl : (6 : Int32) = nI 6) (by omega) (by omega) (by omega))) (rfl : (1 : Int32) = nI 1) (by omega) (by omega) (by omega)))
  refine v_iload_n C eX12_slh_131 rfl 2 rfl ?_
  refine v_iconst (v := (2 : Int32)) C eX12_slh_132 (by decide) ?_
  refine v_icmp_eq (tgt := 141) C eX12_slh_133 (by decide) (fun h => absurd h (ix_ne (a := 3 % 6) (b := 2) (ht1.trans (ix_rem (a := 3) (d := 6) (rfl : nI 3 = nI 3) (rfl : (6 : Int32) = nI 6) (by omega) (by omega) (by omega))) (rfl : (2 : Int32) = nI 2) (by omega) (by omega) (by omega))) (fun _ => ?_)
  refine v_iload_n C eX12_slh_136 rfl 2 rfl ?_
  refine v_iconst (v := (4 : Int32)) C eX12_slh_137 (by decide) ?_
  refine v_icmp_ne (tgt := 146) C eX12_slh_138 (by decide) (fun _ => ?_) (fun h => absurd h (ix_ne (a := 3 % 6) (b := 4) (ht1.trans (ix_rem (a := 3) (d := 6) (rfl : nI 3 = nI 3) (rfl : (6 : Int32) = nI 6) (by omega) (by omega) (by omega))) (rfl : (4 : Int32) = nI 4) (by omega) (by omega) (by omega)))
  refine v_iload_n C eX12_slh_146 rfl 2 rfl ?_
  refine v_iconst (v := (3 : Int32)) C eX12_slh_147 (by decide) ?_
  refine v_icmp_ne (tgt := 156) C eX12_slh_148 (by decide) (fun h => absurd (ix_eq (a := 3 % 6) (b := 3) (ht1.trans (ix_rem (a := 3) (d := 6) (rfl : nI 3 = nI 3) (rfl : (6 : Int32) = nI 6) (by omega) (by omega) (by omega))) (rfl : (3 : Int32) = nI 3) (by omega) (by omega) (by omega)) h) (fun _ => ?_)
  refine v_bipush (v := (8 : Int32)) C eX12_slh_151 (by decide) ?_
  refine v_goto (tgt := 158) C eX12_slh_153 (by decide) ?_
  refine n_put (fs' := mO ad (upd (upd (upd (upd ((ox σ)) 41 ((24 : Int32))) 42 ((66 : Int32))) 43 ((22 : Int32))) 45 ((8 : Int32))) ((ot σ))) C I fX12_252_X12p eX12_slh_158 (hN 49 (by decide)) rfl rfl rfl (Nat.le_of_ble_eq_true rfl) rfl ?_
  refine v_aload_n C eX12_slh_161 rfl 0 rfl ?_
  refine v_iload_n C eX12_slh_162 rfl 2 rfl ?_
  refine v_if_ne (tgt := 171) C eX12_slh_163 (by decide) (fun _ => ?_) (fun h => absurd h (ix_ne (a := 3 % 6) (b := 0) (ht1.trans (ix_rem (a := 3) (d := 6) (rfl : nI 3 = nI 3) (rfl : (6 : Int32) = nI 6) (by omega) (by omega) (by omega))) (rfl : (0 : Int32) = nI 0) (by omega) (by omega) (by omega)))
  refine v_iload_n C eX12_slh_171 rfl 2 rfl ?_
  refine v_iconst (v := (1 : Int32)) C eX12_slh_172 (by decide) ?_
  refine v_icmp_eq (tgt := 181) C eX12_slh_173 (by decide) (fun h => absurd h (ix_ne (a := 3 % 6) (b := 1) (ht1.trans (ix_rem (a := 3) (d := 6) (rfl : nI 3 = nI 3) (rfl : (6 : Int32) = nI 6) (by omega) (by omega) (by omega))) (rfl : (1 : Int32) = nI 1) (by omega) (by omega) (by omega))) (fun _ => ?_)
  refine v_iload_n C eX12_slh_176 rfl 2 rfl ?_
  refine v_iconst (v := (3 : Int32)) C eX12_slh_177 (by decide) ?_
  refine v_icmp_ne (tgt := 186) C eX12_slh_178 (by decide) (fun h => absurd (ix_eq (a := 3 % 6) (b := 3) (ht1.trans (ix_rem (a := 3) (d := 6) (rfl : nI 3 = nI 3) (rfl : (6 : Int32) = nI 6) (by omega) (by omega) (by omega))) (rfl : (3 : Int32) = nI 3) (by omega) (by omega) (by omega)) h) (fun _ => ?_)
  refine v_bipush (v := (33 : Int32)) C eX12_slh_181 (by decide) ?_
  refine v_goto (tgt := 208) C eX12_slh_183 (by decide) ?_
  refine n_put (fs' := mO ad (upd (upd (upd (upd (upd ((ox σ)) 41 ((24 : Int32))) 42 ((66 : Int32))) 43 ((22 : Int32))) 45 ((8 : Int32))) 46 ((33 : Int32))) ((ot σ))) C I fX12_255_X12p eX12_slh_208 (hN 49 (by decide)) rfl rfl rfl (Nat.le_of_ble_eq_true rfl) rfl ?_
  refine v_aload_n C eX12_slh_211 rfl 0 rfl ?_
  refine v_aload_n C eX12_slh_212 rfl 0 rfl ?_
  refine n_get C I fX12_246_X12 eX12_slh_213 (hN 49 (by decide)) rfl rfl ?_
  refine v_aload_n C eX12_slh_216 rfl 0 rfl ?_
  refine n_get C I fX12_249_X12 eX12_slh_217 (hN 49 (by decide)) rfl rfl ?_
  refine v_idiv C eX12_slh_220 (show ¬ (22 : Int32) = 0 by decide) ?_
  refine n_put (fs' := mO ad (upd (upd (upd (upd (upd (upd ((ox σ)) 41 ((24 : Int32))) 42 ((66 : Int32))) 43 ((22 : Int32))) 44 (((66 : Int32)) / ((22 : Int32)))) 45 ((8 : Int32))) 46 ((33 : Int32))) ((ot σ))) C I fX12_258_X12p eX12_slh_221 (hN 49 (by decide)) rfl rfl rfl (Nat.le_of_ble_eq_true rfl) rfl ?_
  refine v_aload_n C eX12_slh_224 rfl 0 rfl ?_
  refine v_iconst (v := (2 : Int32)) C eX12_slh_225 (by decide) ?_
  refine v_aload_n C eX12_slh_226 rfl 0 rfl ?_
  refine n_get C I fX12_243_X12 eX12_slh_227 (hN 49 (by decide)) rfl rfl ?_
  refine v_imul C eX12_slh_230 ?_
  refine v_iconst (v := (3 : Int32)) C eX12_slh_231 (by decide) ?_
  refine v_iadd C eX12_slh_232 ?_
  refine n_put (fs' := mO ad (upd (upd (upd (upd (upd (upd (upd ((ox σ)) 41 ((24 : Int32))) 42 ((66 : Int32))) 43 ((22 : Int32))) 44 (((66 : Int32)) / ((22 : Int32)))) 45 ((8 : Int32))) 46 ((33 : Int32))) 47 ((((2 : Int32)) * ((24 : Int32))) + ((3 : Int32)))) ((ot σ))) C I fX12_261_X12p eX12_slh_233 (hN 49 (by decide)) rfl rfl rfl (Nat.le_of_ble_eq_true rfl) rfl ?_
  refine v_aload_n C eX12_slh_236 rfl 0 rfl ?_
  refine v_iload_n C eX12_slh_237 rfl 1 rfl ?_
  refine v_bipush (v := (6 : Int32)) C eX12_slh_238 (by decide) ?_
  refine v_icmp_ge (tgt := 247) C eX12_slh_240 (by decide) (fun h => absurd h (ix_nle (a := 6) (b := 3) (rfl : (6 : Int32) = nI 6) (rfl : nI 3 = nI 3) (by omega) (by omega) (by omega))) (fun _ => ?_)
  refine v_iconst (v := (1 : Int32)) C eX12_slh_243 (by decide) ?_
  refine v_goto (tgt := 248) C eX12_slh_244 (by decide) ?_
  refine n_put (fs' := mO ad (upd (upd (upd (upd (upd (upd (upd (upd ((ox σ)) 41 ((24 : Int32))) 42 ((66 : Int32))) 43 ((22 : Int32))) 44 (((66 : Int32)) / ((22 : Int32)))) 45 ((8 : Int32))) 46 ((33 : Int32))) 47 ((((2 : Int32)) * ((24 : Int32))) + ((3 : Int32)))) 48 ((1 : Int32))) ((ot σ))) C I fX12_264_X12p eX12_slh_248 (hN 49 (by decide)) rfl rfl rfl (Nat.le_of_ble_eq_true rfl) rfl ?_
  refine v_eq (w' := nW ad N (va_up σ 49 (eO 9 (mO ad (upd (upd (upd (upd (upd (upd (upd (upd ((ox σ)) 41 ((24 : Int32))) 42 ((66 : Int32))) 43 ((22 : Int32))) 44 (((66 : Int32)) / ((22 : Int32)))) 45 ((8 : Int32))) 46 ((33 : Int32))) 47 ((((2 : Int32)) * ((24 : Int32))) + ((3 : Int32)))) 48 ((1 : Int32))) ((ot σ)))))) (congrArg (nW ad N) (n_extL [49] ⟨rfl, trivial⟩ (fun q h => by simp only [List.mem_cons, List.not_mem_nil, or_false, not_or] at h; simp [va_up, h]))) rfl rfl ?_
  refine v_pic (fun ρ hρ => ?_)
  have hC1 : RS G ad θ (xS x 3) ρ := by
    rw [hρ]; exact hC.upO ⟨hC.i3, hC.i4, (show ((24 : Int32) : Int32) = nI 24 by decide), (show ((66 : Int32) : Int32) = nI 66 by decide), (show ((22 : Int32) : Int32) = nI 22 by decide), (show (((66 : Int32)) / ((22 : Int32)) : Int32) = nI 3 by decide), (show ((8 : Int32) : Int32) = nI 8 by decide), (show ((33 : Int32) : Int32) = nI 33 by decide), (show ((((2 : Int32)) * ((24 : Int32))) + ((3 : Int32)) : Int32) = nI 51 by decide), (show ((1 : Int32) : Int32) = 1 by decide)⟩
  have hk1 : ∀ k, ¬ (k = 28 ∨ k = 49) → ρ k = σ k := fun k hk => by rw [hρ]; exact n_ne (by omega)
  refine v_iconst (v := nI 0) C eX12_slh_251 (by decide) ?_
  refine v_istore_n (lv' := [(0, .ref (ad 49)), (1, .int (nI 3)), (2, .int t1), (3, .int (nI 0))]) C eX12_slh_252 rfl (by decide) [1, 2, 3, 0] rfl ?_
  refine v_pick (lv' := [(0, .ref (ad 49)), (1, .int (nI 3)), (3, .int (nI 0))]) [0, 1, 3] rfl ?_
  refine v_forP (fun j τ => RS G ad θ (xS x 3) τ ∧ (∀ k, ¬ (k = 28 ∨ k = 49) → τ k = σ k)) (fun j => [(0, .ref (ad 49)), (1, .int (nI 3)), (3, .int (nI j))]) 32 ?_ ?_ _ ⟨hC1, hk1⟩
  · intro τ hI
    obtain ⟨hC2, hk2⟩ := hI
    refine v_iload_n C eX12_slh_253 rfl 2 rfl ?_
    refine v_bipush (v := (32 : Int32)) C eX12_slh_254 (by decide) ?_
    refine v_icmp_ge (tgt := 272) C eX12_slh_256 (by decide) (fun _ => ?_) (fun h => absurd (ix_le (a := 32) (b := 32) (rfl : (32 : Int32) = nI 32) (rfl : nI 32 = nI 32) (by omega) (by omega) (by omega)) h)
    exact n_vret C rfl eX12_slh_272 ⟨rfl, hC2, hk2⟩
  · intro j hj ih τ hI
    obtain ⟨hC2, hk2⟩ := hI
    refine v_iload_n C eX12_slh_253 rfl 2 rfl ?_
    refine v_bipush (v := (32 : Int32)) C eX12_slh_254 (by decide) ?_
    refine v_icmp_ge (tgt := 272) C eX12_slh_256 (by decide) (fun h => absurd h (ix_nle (a := 32) (b := j) (rfl : (32 : Int32) = nI 32) (rfl : nI j = nI j) (by omega) (by omega) (by omega))) (fun _ => ?_)
    refine v_aload_n C eX12_slh_259 rfl 0 rfl ?_
    refine n_get C I fX12_81_X12 eX12_slh_260 (hN 49 (by decide)) hC2.obj rfl ?_
    refine v_iload_n C eX12_slh_263 rfl 2 rfl ?_
    refine v_iconst (v := (0 : Int32)) C eX12_slh_264 (by decide) ?_
    refine n_bast C I eX12_slh_265 (hN 28 (by decide)) (hC2.b 28 32 rfl (by decide)) j (rfl : nI j = nI j) (by omega) (by decide) ?_
    refine v_iinc (lv' := [(0, .ref (ad 49)), (1, .int (nI 3)), (3, .int (nI (j + 1)))]) C eX12_slh_266 2 rfl (ix_inc _) (by decide) [1, 2, 0] rfl ?_
    refine v_goto (tgt := 253) C eX12_slh_269 (by decide) ?_
    exact ih _ ⟨hC2.up rfl (by decide) _, fun k hk => (n_ne (by omega)).trans (hk2 k hk)⟩

set_option maxRecDepth 100000 in
set_option maxHeartbeats 4000000 in
theorem rs_slh4 (I : nI1 ad N) (hN : ∀ k, k < 74 → k < N) (hC : RS G ad θ x σ) : nOk G B l ad N yX12_slh cX12_slh 4 none 0 0 0 [.ref (ad 49), .int (nI 4)] σ (fun r σ' => r = none ∧ RS G ad θ (xS x 4) σ' ∧ (∀ k, ¬ (k = 28 ∨ k = 49) → σ' k = σ k)) := by
  refine vOk.of (by decide +kernel) (Nat.le_of_ble_eq_true rfl) ?_
  intro p e s m args below meth c C
  refine v_eq (lv' := [(0, .ref (ad 49)), (1, .int (nI 4))]) rfl rfl rfl ?_
  refine v_iload_n C eX12_slh_0 rfl 1 rfl ?_
  refine v_bipush (v := (6 : Int32)) C eX12_slh_1 (by decide) ?_
  refine v_irem C eX12_slh_3 (by decide) ?_
  refine v_topi (fun t1 ht1 => ?_)
  refine v_istore_n (lv' := [(0, .ref (ad 49)), (1, .int (nI 4)), (2, .int t1)]) C eX12_slh_4 rfl (by decide) [1, 2, 0] rfl ?_
  refine v_aload_n C eX12_slh_5 rfl 0 rfl ?_
  refine v_iload_n C eX12_slh_6 rfl 2 rfl ?_
  refine v_iconst (v := (2 : Int32)) C eX12_slh_7 (by decide) ?_
  refine v_icmp_ge (tgt := 16) C eX12_slh_8 (by decide) (fun _ => ?_) (fun h => absurd (ix_le (a := 2) (b := 4 % 6) (rfl : (2 : Int32) = nI 2) (ht1.trans (ix_rem (a := 4) (d := 6) (rfl : nI 4 = nI 4) (rfl : (6 : Int32) = nI 6) (by omega) (by omega) (by omega))) (by omega) (by omega) (by omega)) h)
  refine v_iload_n C eX12_slh_16 rfl 2 rfl ?_
  refine v_iconst (v := (4 : Int32)) C eX12_slh_17 (by decide) ?_
  refine v_icmp_ge (tgt := 26) C eX12_slh_18 (by decide) (fun _ => ?_) (fun h => absurd (ix_le (a := 4) (b := 4 % 6) (rfl : (4 : Int32) = nI 4) (ht1.trans (ix_rem (a := 4) (d := 6) (rfl : nI 4 = nI 4) (rfl : (6 : Int32) = nI 6) (by omega) (by omega) (by omega))) (by omega) (by omega) (by omega)) h)
  refine v_bipush (v := (32 : Int32)) C eX12_slh_26 (by decide) ?_
  refine n_put (fs' := mO ad (upd ((ox σ)) 41 ((32 : Int32))) ((ot σ))) C I fX12_243_X12p eX12_slh_28 (hN 49 (by decide)) hC.obj rfl rfl (Nat.le_of_ble_eq_true rfl) rfl ?_
  refine v_aload_n C eX12_slh_31 rfl 0 rfl ?_
  refine v_iload_n C eX12_slh_32 rfl 2 rfl ?_
  refine v_if_eq (tgt := 41) C eX12_slh_33 (by decide) (fun h => absurd h (ix_ne (a := 4 % 6) (b := 0) (ht1.trans (ix_rem (a := 4) (d := 6) (rfl : nI 4 = nI 4) (rfl : (6 : Int32) = nI 6) (by omega) (by omega) (by omega))) (rfl : (0 : Int32) = nI 0) (by omega) (by omega) (by omega))) (fun _ => ?_)
  refine v_iload_n C eX12_slh_36 rfl 2 rfl ?_
  refine v_iconst (v := (2 : Int32)) C eX12_slh_37 (by decide) ?_
  refine v_icmp_ne (tgt := 46) C eX12_slh_38 (by decide) (fun _ => ?_) (fun h => absurd h (ix_ne (a := 4 % 6) (b := 2) (ht1.trans (ix_rem (a := 4) (d := 6) (rfl : nI 4 = nI 4) (rfl : (6 : Int32) = nI 6) (by omega) (by omega) (by omega))) (rfl : (2 : Int32) = nI 2) (by omega) (by omega) (by omega)))
  refine v_iload_n C eX12_slh_46 rfl 2 rfl ?_
  refine v_iconst (v := (4 : Int32)) C eX12_slh_47 (by decide) ?_
  refine v_icmp_ne (tgt := 56) C eX12_slh_48 (by decide) (fun h => absurd (ix_eq (a := 4 % 6) (b := 4) (ht1.trans (ix_rem (a := 4) (d := 6) (rfl : nI 4 = nI 4) (rfl : (6 : Int32) = nI 6) (by omega) (by omega) (by omega))) (rfl : (4 : Int32) = nI 4) (by omega) (by omega) (by omega)) h) (fun _ => ?_)
  refine v_bipush (v := (64 : Int32)) C eX12_slh_51 (by decide) ?_
  refine v_goto (tgt := 68) C eX12_slh_53 (by decide) ?_
  refine n_put (fs' := mO ad (upd (upd ((ox σ)) 41 ((32 : Int32))) 42 ((64 : Int32))) ((ot σ))) C I fX12_246_X12p eX12_slh_68 (hN 49 (by decide)) rfl rfl rfl (Nat.le_of_ble_eq_true rfl) rfl ?_
  refine v_aload_n C eX12_slh_71 rfl 0 rfl ?_
  refine v_iload_n C eX12_slh_72 rfl 2 rfl ?_
  refine v_if_eq (tgt := 81) C eX12_slh_73 (by decide) (fun h => absurd h (ix_ne (a := 4 % 6) (b := 0) (ht1.trans (ix_rem (a := 4) (d := 6) (rfl : nI 4 = nI 4) (rfl : (6 : Int32) = nI 6) (by omega) (by omega) (by omega))) (rfl : (0 : Int32) = nI 0) (by omega) (by omega) (by omega))) (fun _ => ?_)
  refine v_iload_n C eX12_slh_76 rfl 2 rfl ?_
  refine v_iconst (v := (2 : Int32)) C eX12_slh_77 (by decide) ?_
  refine v_icmp_ne (tgt := 86) C eX12_slh_78 (by decide) (fun _ => ?_) (fun h => absurd h (ix_ne (a := 4 % 6) (b := 2) (ht1.trans (ix_rem (a := 4) (d := 6) (rfl : nI 4 = nI 4) (rfl : (6 : Int32) = nI 6) (by omega) (by omega) (by omega))) (rfl : (2 : Int32) = nI 2) (by omega) (by omega) (by omega)))
  refine v_iload_n C eX12_slh_86 rfl 2 rfl ?_
  refine v_iconst (v := (4 : Int32)) C eX12_slh_87 (by decide) ?_
  refine v_icmp_ne (tgt := 96) C eX12_slh_88 (by decide) (fun h => absurd (ix_eq (a := 4 % 6) (b := 4) (ht1.trans (ix_rem (a := 4) (d := 6) (rfl : nI 4 = nI 4) (rfl : (6 : Int32) = nI 6) (by omega) (by omega) (by omega))) (rfl : (4 : Int32) = nI 4) (by omega) (by omega) (by omega)) h) (fun _ => ?_)
  refine v_bipush (v := (8 : Int32)) C eX12_slh_91 (by decide) ?_
  refine v_goto (tgt := 108) C eX12_slh_93 (by decide) ?_
  refine n_put (fs' := mO ad (upd (upd (upd ((ox σ)) 41 ((32 : Int32))) 42 ((64 : Int32))) 43 ((8 : Int32))) ((ot σ))) C I fX12_249_X12p eX12_slh_108 (hN 49 (by decide)) rfl rfl rfl (Nat.le_of_ble_eq_true rfl) rfl ?_
  refine v_aload_n C eX12_slh_111 rfl 0 rfl ?_
  refine v_iload_n C eX12_slh_112 rfl 2 rfl ?_
  refine v_if_ne (tgt := 121) C eX12_slh_113 (by decide) (fun _ => ?_) (fun h => absurd h (ix_ne (a := 4 % 6) (b := 0) (ht1.trans (ix_rem (a := 4) (d := 6) (rfl : nI 4 = nI 4) (rfl : (6 : Int32) = nI 6) (by omega) (by omega) (by omega))) (rfl : (0 : Int32) = nI 0) (by omega) (by omega) (by omega)))
  refine v_iload_n C eX12_slh_121 rfl 2 rfl ?_
  refine v_iconst (v := (1 : Int32)) C eX12_slh_122 (by decide) ?_
  refine v_icmp_ne (tgt := 131) C eX12_slh_123 (by decide) (fun _ => ?_) (fun h => absurd h (ix_ne (a := 4 % 6) (b := 1) (ht1.trans (ix_rem (a := 4) (d := 6) (rfl : nI 4 = nI 4) (rfl : (6 : Int32) = nI 6) (by omega) (by omega) (by omega))) (rfl : (1 : Int32) = nI 1) (by omega) (by omega) (by omega)))
  refine v_iload_n C eX12_slh_131 rfl 2 rfl ?_
  refine v_iconst (v := (2 : Int32)) C eX12_slh_132 (by decide) ?_
  refine v_icmp_eq (tgt := 141) C eX12_slh_133 (by decide) (fun h => absurd h (ix_ne (a := 4 % 6) (b := 2) (ht1.trans (ix_rem (a := 4) (d := 6) (rfl : nI 4 = nI 4) (rfl : (6 : Int32) = nI 6) (by omega) (by omega) (by omega))) (rfl : (2 : Int32) = nI 2) (by omega) (by omega) (by omega))) (fun _ => ?_)
  refine v_iload_n C eX12_slh_136 rfl 2 rfl ?_
  refine v_iconst (v := (4 : Int32)) C eX12_slh_137 (by decide) ?_
  refine v_icmp_ne (tgt := 146) C eX12_slh_138 (by decide) (fun h => absurd (ix_eq (a := 4 % 6) (b := 4) (ht1.trans (ix_rem (a := 4) (d := 6) (rfl : nI 4 = nI 4) (rfl : (6 : Int32) = nI 6) (by omega) (by omega) (by omega))) (rfl : (4 : Int32) = nI 4) (by omega) (by omega) (by omega)) h) (fun _ => ?_)
  refine v_bipush (v := (14 : Int32)) C eX12_slh_141 (by decide) ?_
  refine v_goto (tgt := 158) C eX12_slh_143 (by decide) ?_
  refine n_put (fs' := mO ad (upd (upd (upd (upd ((ox σ)) 41 ((32 : Int32))) 42 ((64 : Int32))) 43 ((8 : Int32))) 45 ((14 : Int32))) ((ot σ))) C I fX12_252_X12p eX12_slh_158 (hN 49 (by decide)) rfl rfl rfl (Nat.le_of_ble_eq_true rfl) rfl ?_
  refine v_aload_n C eX12_slh_161 rfl 0 rfl ?_
  refine v_iload_n C eX12_slh_162 rfl 2 rfl ?_
  refine v_if_ne (tgt := 171) C eX12_slh_163 (by decide) (fun _ => ?_) (fun h => absurd h (ix_ne (a := 4 % 6) (b := 0) (ht1.trans (ix_rem (a := 4) (d := 6) (rfl : nI 4 = nI 4) (rfl : (6 : Int32) = nI 6) (by omega) (by omega) (by omega))) (rfl : (0 : Int32) = nI 0) (by omega) (by omega) (by omega)))
  refine v_iload_n C eX12_slh_171 rfl 2 rfl ?_
  refine v_iconst (v := (1 : Int32)) C eX12_slh_172 (by decide) ?_
  refine v_icmp_eq (tgt := 181) C eX12_slh_173 (by decide) (fun h => absurd h (ix_ne (a := 4 % 6) (b := 1) (ht1.trans (ix_rem (a := 4) (d := 6) (rfl : nI 4 = nI 4) (rfl : (6 : Int32) = nI 6) (by omega) (by omega) (by omega))) (rfl : (1 : Int32) = nI 1) (by omega) (by omega) (by omega))) (fun _ => ?_)
  refine v_iload_n C eX12_slh_176 rfl 2 rfl ?_
  refine v_iconst (v := (3 : Int32)) C eX12_slh_177 (by decide) ?_
  refine v_icmp_ne (tgt := 186) C eX12_slh_178 (by decide) (fun _ => ?_) (fun h => absurd h (ix_ne (a := 4 % 6) (b := 3) (ht1.trans (ix_rem (a := 4) (d := 6) (rfl : nI 4 = nI 4) (rfl : (6 : Int32) = nI 6) (by omega) (by omega) (by omega))) (rfl : (3 : Int32) = nI 3) (by omega) (by omega) (by omega)))
  refine v_iload_n C eX12_slh_186 rfl 2 rfl ?_
  refine v_iconst (v := (2 : Int32)) C eX12_slh_187 (by decide) ?_
  refine v_icmp_ne (tgt := 196) C eX12_slh_188 (by decide) (fun _ => ?_) (fun h => absurd h (ix_ne (a := 4 % 6) (b := 2) (ht1.trans (ix_rem (a := 4) (d := 6) (rfl : nI 4 = nI 4) (rfl : (6 : Int32) = nI 6) (by omega) (by omega) (by omega))) (rfl : (2 : Int32) = nI 2) (by omega) (by omega) (by omega)))
  refine v_iload_n C eX12_slh_196 rfl 2 rfl ?_
  refine v_iconst (v := (4 : Int32)) C eX12_slh_197 (by decide) ?_
  refine v_icmp_ne (tgt := 206) C eX12_slh_198 (by decide) (fun h => absurd (ix_eq (a := 4 % 6) (b := 4) (ht1.trans (ix_rem (a := 4) (d := 6) (rfl : nI 4 = nI 4) (rfl : (6 : Int32) = nI 6) (by omega) (by omega) (by omega))) (rfl : (4 : Int32) = nI 4) (by omega) (by omega) (by omega)) h) (fun _ => ?_)
  refine v_bipush (v := (22 : Int32)) C eX12_slh_201 (by decide) ?_
  refine v_goto (tgt := 208) C eX12_slh_203 (by decide) ?_
  refine n_put (fs' := mO ad (upd (upd (upd (upd (upd ((ox σ)) 41 ((32 : Int32))) 42 ((64 : Int32))) 43 ((8 : Int32))) 45 ((14 : Int32))) 46 ((22 : Int32))) ((ot σ))) C I fX12_255_X12p eX12_slh_208 (hN 49 (by decide)) rfl rfl rfl (Nat.le_of_ble_eq_true rfl) rfl ?_
  refine v_aload_n C eX12_slh_211 rfl 0 rfl ?_
  refine v_aload_n C eX12_slh_212 rfl 0 rfl ?_
  refine n_get C I fX12_246_X12 eX12_slh_213 (hN 49 (by decide)) rfl rfl ?_
  refine v_aload_n C eX12_slh_216 rfl 0 rfl ?_
  refine n_get C I fX12_249_X12 eX12_slh_217 (hN 49 (by decide)) rfl rfl ?_
  refine v_idiv C eX12_slh_220 (show ¬ (8 : Int32) = 0 by decide) ?_
  refine n_put (fs' := mO ad (upd (upd (upd (upd (upd (upd ((ox σ)) 41 ((32 : Int32))) 42 ((64 : Int32))) 43 ((8 : Int32))) 44 (((64 : Int32)) / ((8 : Int32)))) 45 ((14 : Int32))) 46 ((22 : Int32))) ((ot σ))) C I fX12_258_X12p eX12_slh_221 (hN 49 (by decide)) rfl rfl rfl (Nat.le_of_ble_eq_true rfl) rfl ?_
  refine v_aload_n C eX12_slh_224 rfl 0 rfl ?_
  refine v_iconst (v := (2 : Int32)) C eX12_slh_225 (by decide) ?_
  refine v_aload_n C eX12_slh_226 rfl 0 rfl ?_
  refine n_get C I fX12_243_X12 eX12_slh_227 (hN 49 (by decide)) rfl rfl ?_
  refine v_imul C eX12_slh_230 ?_
  refine v_iconst (v := (3 : Int32)) C eX12_slh_231 (by decide) ?_
  refine v_iadd C eX12_slh_232 ?_
  refine n_put (fs' := mO ad (upd (upd (upd (upd (upd (upd (upd ((ox σ)) 41 ((32 : Int32))) 42 ((64 : Int32))) 43 ((8 : Int32))) 44 (((64 : Int32)) / ((8 : Int32)))) 45 ((14 : Int32))) 46 ((22 : Int32))) 47 ((((2 : Int32)) * ((32 : Int32))) + ((3 : Int32)))) ((ot σ))) C I fX12_261_X12p eX12_slh_233 (hN 49 (by decide)) rfl rfl rfl (Nat.le_of_ble_eq_true rfl) rfl ?_
  refine v_aload_n C eX12_slh_236 rfl 0 rfl ?_
  refine v_iload_n C eX12_slh_237 rfl 1 rfl ?_
  refine v_bipush (v := (6 : Int32)) C eX12_slh_238 (by decide) ?_
  refine v_icmp_ge (tgt := 247) C eX12_slh_240 (by decide) (fun h => absurd h (ix_nle (a := 6) (b := 4) (rfl : (6 : Int32) = nI 6) (rfl : nI 4 = nI 4) (by omega) (by omega) (by omega))) (fun _ => ?_)
  refine v_iconst (v := (1 : Int32)) C eX12_slh_243 (by decide) ?_
  refine v_goto (tgt := 248) C eX12_slh_244 (by decide) ?_
  refine n_put (fs' := mO ad (upd (upd (upd (upd (upd (upd (upd (upd ((ox σ)) 41 ((32 : Int32))) 42 ((64 : Int32))) 43 ((8 : Int32))) 44 (((64 : Int32)) / ((8 : Int32)))) 45 ((14 : Int32))) 46 ((22 : Int32))) 47 ((((2 : Int32)) * ((32 : Int32))) + ((3 : Int32)))) 48 ((1 : Int32))) ((ot σ))) C I fX12_264_X12p eX12_slh_248 (hN 49 (by decide)) rfl rfl rfl (Nat.le_of_ble_eq_true rfl) rfl ?_
  refine v_eq (w' := nW ad N (va_up σ 49 (eO 9 (mO ad (upd (upd (upd (upd (upd (upd (upd (upd ((ox σ)) 41 ((32 : Int32))) 42 ((64 : Int32))) 43 ((8 : Int32))) 44 (((64 : Int32)) / ((8 : Int32)))) 45 ((14 : Int32))) 46 ((22 : Int32))) 47 ((((2 : Int32)) * ((32 : Int32))) + ((3 : Int32)))) 48 ((1 : Int32))) ((ot σ)))))) (congrArg (nW ad N) (n_extL [49] ⟨rfl, trivial⟩ (fun q h => by simp only [List.mem_cons, List.not_mem_nil, or_false, not_or] at h; simp [va_up, h]))) rfl rfl ?_
  refine v_pic (fun ρ hρ => ?_)
  have hC1 : RS G ad θ (xS x 4) ρ := by
    rw [hρ]; exact hC.upO ⟨hC.i3, hC.i4, (show ((32 : Int32) : Int32) = nI 32 by decide), (show ((64 : Int32) : Int32) = nI 64 by decide), (show ((8 : Int32) : Int32) = nI 8 by decide), (show (((64 : Int32)) / ((8 : Int32)) : Int32) = nI 8 by decide), (show ((14 : Int32) : Int32) = nI 14 by decide), (show ((22 : Int32) : Int32) = nI 22 by decide), (show ((((2 : Int32)) * ((32 : Int32))) + ((3 : Int32)) : Int32) = nI 67 by decide), (show ((1 : Int32) : Int32) = 1 by decide)⟩
  have hk1 : ∀ k, ¬ (k = 28 ∨ k = 49) → ρ k = σ k := fun k hk => by rw [hρ]; exact n_ne (by omega)
  refine v_iconst (v := nI 0) C eX12_slh_251 (by decide) ?_
  refine v_istore_n (lv' := [(0, .ref (ad 49)), (1, .int (nI 4)), (2, .int t1), (3, .int (nI 0))]) C eX12_slh_252 rfl (by decide) [1, 2, 3, 0] rfl ?_
  refine v_pick (lv' := [(0, .ref (ad 49)), (1, .int (nI 4)), (3, .int (nI 0))]) [0, 1, 3] rfl ?_
  refine v_forP (fun j τ => RS G ad θ (xS x 4) τ ∧ (∀ k, ¬ (k = 28 ∨ k = 49) → τ k = σ k)) (fun j => [(0, .ref (ad 49)), (1, .int (nI 4)), (3, .int (nI j))]) 32 ?_ ?_ _ ⟨hC1, hk1⟩
  · intro τ hI
    obtain ⟨hC2, hk2⟩ := hI
    refine v_iload_n C eX12_slh_253 rfl 2 rfl ?_
    refine v_bipush (v := (32 : Int32)) C eX12_slh_254 (by decide) ?_
    refine v_icmp_ge (tgt := 272) C eX12_slh_256 (by decide) (fun _ => ?_) (fun h => absurd (ix_le (a := 32) (b := 32) (rfl : (32 : Int32) = nI 32) (rfl : nI 32 = nI 32) (by omega) (by omega) (by omega)) h)
    exact n_vret C rfl eX12_slh_272 ⟨rfl, hC2, hk2⟩
  · intro j hj ih τ hI
    obtain ⟨hC2, hk2⟩ := hI
    refine v_iload_n C eX12_slh_253 rfl 2 rfl ?_
    refine v_bipush (v := (32 : Int32)) C eX12_slh_254 (by decide) ?_
    refine v_icmp_ge (tgt := 272) C eX12_slh_256 (by decide) (fun h => absurd h (ix_nle (a := 32) (b := j) (rfl : (32 : Int32) = nI 32) (rfl : nI j = nI j) (by omega) (by omega) (by omega))) (fun _ => ?_)
    refine v_aload_n C eX12_slh_259 rfl 0 rfl ?_
    refine n_get C I fX12_81_X12 eX12_slh_260 (hN 49 (by decide)) hC2.obj rfl ?_
    refine v_iload_n C eX12_slh_263 rfl 2 rfl ?_
    refine v_iconst (v := (0 : Int32)) C eX12_slh_264 (by decide) ?_
    refine n_bast C I eX12_slh_265 (hN 28 (by decide)) (hC2.b 28 32 rfl (by decide)) j (rfl : nI j = nI j) (by omega) (by decide) ?_
    refine v_iinc (lv' := [(0, .ref (ad 49)), (1, .int (nI 4)), (3, .int (nI (j + 1)))]) C eX12_slh_266 2 rfl (ix_inc _) (by decide) [1, 2, 0] rfl ?_
    refine v_goto (tgt := 253) C eX12_slh_269 (by decide) ?_
    exact ih _ ⟨hC2.up rfl (by decide) _, fun k hk => (n_ne (by omega)).trans (hk2 k hk)⟩

set_option maxRecDepth 100000 in
set_option maxHeartbeats 4000000 in
theorem rs_slh5 (I : nI1 ad N) (hN : ∀ k, k < 74 → k < N) (hC : RS G ad θ x σ) : nOk G B l ad N yX12_slh cX12_slh 4 none 0 0 0 [.ref (ad 49), .int (nI 5)] σ (fun r σ' => r = none ∧ RS G ad θ (xS x 5) σ' ∧ (∀ k, ¬ (k = 28 ∨ k = 49) → σ' k = σ k)) := by
  refine vOk.of (by decide +kernel) (Nat.le_of_ble_eq_true rfl) ?_
  intro p e s m args below meth c C
  refine v_eq (lv' := [(0, .ref (ad 49)), (1, .int (nI 5))]) rfl rfl rfl ?_
  refine v_iload_n C eX12_slh_0 rfl 1 rfl ?_
  refine v_bipush (v := (6 : Int32)) C eX12_slh_1 (by decide) ?_
  refine v_irem C eX12_slh_3 (by decide) ?_
  refine v_topi (fun t1 ht1 => ?_)
  refine v_istore_n (lv' := [(0, .ref (ad 49)), (1, .int (nI 5)), (2, .int t1)]) C eX12_slh_4 rfl (by decide) [1, 2, 0] rfl ?_
  refine v_aload_n C eX12_slh_5 rfl 0 rfl ?_
  refine v_iload_n C eX12_slh_6 rfl 2 rfl ?_
  refine v_iconst (v := (2 : Int32)) C eX12_slh_7 (by decide) ?_
  refine v_icmp_ge (tgt := 16) C eX12_slh_8 (by decide) (fun _ => ?_) (fun h => absurd (ix_le (a := 2) (b := 5 % 6) (rfl : (2 : Int32) = nI 2) (ht1.trans (ix_rem (a := 5) (d := 6) (rfl : nI 5 = nI 5) (rfl : (6 : Int32) = nI 6) (by omega) (by omega) (by omega))) (by omega) (by omega) (by omega)) h)
  refine v_iload_n C eX12_slh_16 rfl 2 rfl ?_
  refine v_iconst (v := (4 : Int32)) C eX12_slh_17 (by decide) ?_
  refine v_icmp_ge (tgt := 26) C eX12_slh_18 (by decide) (fun _ => ?_) (fun h => absurd (ix_le (a := 4) (b := 5 % 6) (rfl : (4 : Int32) = nI 4) (ht1.trans (ix_rem (a := 5) (d := 6) (rfl : nI 5 = nI 5) (rfl : (6 : Int32) = nI 6) (by omega) (by omega) (by omega))) (by omega) (by omega) (by omega)) h)
  refine v_bipush (v := (32 : Int32)) C eX12_slh_26 (by decide) ?_
  refine n_put (fs' := mO ad (upd ((ox σ)) 41 ((32 : Int32))) ((ot σ))) C I fX12_243_X12p eX12_slh_28 (hN 49 (by decide)) hC.obj rfl rfl (Nat.le_of_ble_eq_true rfl) rfl ?_
  refine v_aload_n C eX12_slh_31 rfl 0 rfl ?_
  refine v_iload_n C eX12_slh_32 rfl 2 rfl ?_
  refine v_if_eq (tgt := 41) C eX12_slh_33 (by decide) (fun h => absurd h (ix_ne (a := 5 % 6) (b := 0) (ht1.trans (ix_rem (a := 5) (d := 6) (rfl : nI 5 = nI 5) (rfl : (6 : Int32) = nI 6) (by omega) (by omega) (by omega))) (rfl : (0 : Int32) = nI 0) (by omega) (by omega) (by omega))) (fun _ => ?_)
  refine v_iload_n C eX12_slh_36 rfl 2 rfl ?_
  refine v_iconst (v := (2 : Int32)) C eX12_slh_37 (by decide) ?_
  refine v_icmp_ne (tgt := 46) C eX12_slh_38 (by decide) (fun _ => ?_) (fun h => absurd h (ix_ne (a := 5 % 6) (b := 2) (ht1.trans (ix_rem (a := 5) (d := 6) (rfl : nI 5 = nI 5) (rfl : (6 : Int32) = nI 6) (by omega) (by omega) (by omega))) (rfl : (2 : Int32) = nI 2) (by omega) (by omega) (by omega)))
  refine v_iload_n C eX12_slh_46 rfl 2 rfl ?_
  refine v_iconst (v := (4 : Int32)) C eX12_slh_47 (by decide) ?_
  refine v_icmp_ne (tgt := 56) C eX12_slh_48 (by decide) (fun _ => ?_) (fun h => absurd h (ix_ne (a := 5 % 6) (b := 4) (ht1.trans (ix_rem (a := 5) (d := 6) (rfl : nI 5 = nI 5) (rfl : (6 : Int32) = nI 6) (by omega) (by omega) (by omega))) (rfl : (4 : Int32) = nI 4) (by omega) (by omega) (by omega)))
  refine v_iload_n C eX12_slh_56 rfl 2 rfl ?_
  refine v_iconst (v := (5 : Int32)) C eX12_slh_57 (by decide) ?_
  refine v_icmp_ne (tgt := 66) C eX12_slh_58 (by decide) (fun h => absurd (ix_eq (a := 5 % 6) (b := 5) (ht1.trans (ix_rem (a := 5) (d := 6) (rfl : nI 5 = nI 5) (rfl : (6 : Int32) = nI 6) (by omega) (by omega) (by omega))) (rfl : (5 : Int32) = nI 5) (by omega) (by omega) (by omega)) h) (fun _ => ?_)
  refine v_bipush (v := (68 : Int32)) C eX12_slh_61 (by decide) ?_
  refine v_goto (tgt := 68) C eX12_slh_63 (by decide) ?_
  refine n_put (fs' := mO ad (upd (upd ((ox σ)) 41 ((32 : Int32))) 42 ((68 : Int32))) ((ot σ))) C I fX12_246_X12p eX12_slh_68 (hN 49 (by decide)) rfl rfl rfl (Nat.le_of_ble_eq_true rfl) rfl ?_
  refine v_aload_n C eX12_slh_71 rfl 0 rfl ?_
  refine v_iload_n C eX12_slh_72 rfl 2 rfl ?_
  refine v_if_eq (tgt := 81) C eX12_slh_73 (by decide) (fun h => absurd h (ix_ne (a := 5 % 6) (b := 0) (ht1.trans (ix_rem (a := 5) (d := 6) (rfl : nI 5 = nI 5) (rfl : (6 : Int32) = nI 6) (by omega) (by omega) (by omega))) (rfl : (0 : Int32) = nI 0) (by omega) (by omega) (by omega))) (fun _ => ?_)
  refine v_iload_n C eX12_slh_76 rfl 2 rfl ?_
  refine v_iconst (v := (2 : Int32)) C eX12_slh_77 (by decide) ?_
  refine v_icmp_ne (tgt := 86) C eX12_slh_78 (by decide) (fun _ => ?_) (fun h => absurd h (ix_ne (a := 5 % 6) (b := 2) (ht1.trans (ix_rem (a := 5) (d := 6) (rfl : nI 5 = nI 5) (rfl : (6 : Int32) = nI 6) (by omega) (by omega) (by omega))) (rfl : (2 : Int32) = nI 2) (by omega) (by omega) (by omega)))
  refine v_iload_n C eX12_slh_86 rfl 2 rfl ?_
  refine v_iconst (v := (4 : Int32)) C eX12_slh_87 (by decide) ?_
  refine v_icmp_ne (tgt := 96) C eX12_slh_88 (by decide) (fun _ => ?_) (fun h => absurd h (ix_ne (a := 5 % 6) (b := 4) (ht1.trans (ix_rem (a := 5) (d := 6) (rfl : nI 5 = nI 5) (rfl : (6 : Int32) = nI 6) (by omega) (by omega) (by omega))) (rfl : (4 : Int32) = nI 4) (by omega) (by omega) (by omega)))
  refine v_iload_n C eX12_slh_96 rfl 2 rfl ?_
  refine v_iconst (v := (5 : Int32)) C eX12_slh_97 (by decide) ?_
  refine v_icmp_ne (tgt := 106) C eX12_slh_98 (by decide) (fun h => absurd (ix_eq (a := 5 % 6) (b := 5) (ht1.trans (ix_rem (a := 5) (d := 6) (rfl : nI 5 = nI 5) (rfl : (6 : Int32) = nI 6) (by omega) (by omega) (by omega))) (rfl : (5 : Int32) = nI 5) (by omega) (by omega) (by omega)) h) (fun _ => ?_)
  refine v_bipush (v := (17 : Int32)) C eX12_slh_101 (by decide) ?_
  refine v_goto (tgt := 108) C eX12_slh_103 (by decide) ?_
  refine n_put (fs' := mO ad (upd (upd (upd ((ox σ)) 41 ((32 : Int32))) 42 ((68 : Int32))) 43 ((17 : Int32))) ((ot σ))) C I fX12_249_X12p eX12_slh_108 (hN 49 (by decide)) rfl rfl rfl (Nat.le_of_ble_eq_true rfl) rfl ?_
  refine v_aload_n C eX12_slh_111 rfl 0 rfl ?_
  refine v_iload_n C eX12_slh_112 rfl 2 rfl ?_
  refine v_if_ne (tgt := 121) C eX12_slh_113 (by decide) (fun _ => ?_) (fun h => absurd h (ix_ne (a := 5 % 6) (b := 0) (ht1.trans (ix_rem (a := 5) (d := 6) (rfl : nI 5 = nI 5) (rfl : (6 : Int32) = nI 6) (by omega) (by omega) (by omega))) (rfl : (0 : Int32) = nI 0) (by omega) (by omega) (by omega)))
  refine v_iload_n C eX12_slh_121 rfl 2 rfl ?_
  refine v_iconst (v := (1 : Int32)) C eX12_slh_122 (by decide) ?_
  refine v_icmp_ne (tgt := 131) C eX12_slh_123 (by decide) (fun _ => ?_) (fun h => absurd h (ix_ne (a := 5 % 6) (b := 1) (ht1.trans (ix_rem (a := 5) (d := 6) (rfl : nI 5 = nI 5) (rfl : (6 : Int32) = nI 6) (by omega) (by omega) (by omega))) (rfl : (1 : Int32) = nI 1) (by omega) (by omega) (by omega)))
  refine v_iload_n C eX12_slh_131 rfl 2 rfl ?_
  refine v_iconst (v := (2 : Int32)) C eX12_slh_132 (by decide) ?_
  refine v_icmp_eq (tgt := 141) C eX12_slh_133 (by decide) (fun h => absurd h (ix_ne (a := 5 % 6) (b := 2) (ht1.trans (ix_rem (a := 5) (d := 6) (rfl : nI 5 = nI 5) (rfl : (6 : Int32) = nI 6) (by omega) (by omega) (by omega))) (rfl : (2 : Int32) = nI 2) (by omega) (by omega) (by omega))) (fun _ => ?_)
  refine v_iload_n C eX12_slh_136 rfl 2 rfl ?_
  refine v_iconst (v := (4 : Int32)) C eX12_slh_137 (by decide) ?_
  refine v_icmp_ne (tgt := 146) C eX12_slh_138 (by decide) (fun _ => ?_) (fun h => absurd h (ix_ne (a := 5 % 6) (b := 4) (ht1.trans (ix_rem (a := 5) (d := 6) (rfl : nI 5 = nI 5) (rfl : (6 : Int32) = nI 6) (by omega) (by omega) (by omega))) (rfl : (4 : Int32) = nI 4) (by omega) (by omega) (by omega)))
  refine v_iload_n C eX12_slh_146 rfl 2 rfl ?_
  refine v_iconst (v := (3 : Int32)) C eX12_slh_147 (by decide) ?_
  refine v_icmp_ne (tgt := 156) C eX12_slh_148 (by decide) (fun _ => ?_) (fun h => absurd h (ix_ne (a := 5 % 6) (b := 3) (ht1.trans (ix_rem (a := 5) (d := 6) (rfl : nI 5 = nI 5) (rfl : (6 : Int32) = nI 6) (by omega) (by omega) (by omega))) (rfl : (3 : Int32) = nI 3) (by omega) (by omega) (by omega)))
  refine v_bipush (v := (9 : Int32)) C eX12_slh_156 (by decide) ?_
  refine n_put (fs' := mO ad (upd (upd (upd (upd ((ox σ)) 41 ((32 : Int32))) 42 ((68 : Int32))) 43 ((17 : Int32))) 45 ((9 : Int32))) ((ot σ))) C I fX12_252_X12p eX12_slh_158 (hN 49 (by decide)) rfl rfl rfl (Nat.le_of_ble_eq_true rfl) rfl ?_
  refine v_aload_n C eX12_slh_161 rfl 0 rfl ?_
  refine v_iload_n C eX12_slh_162 rfl 2 rfl ?_
  refine v_if_ne (tgt := 171) C eX12_slh_163 (by decide) (fun _ => ?_) (fun h => absurd h (ix_ne (a := 5 % 6) (b := 0) (ht1.trans (ix_rem (a := 5) (d := 6) (rfl : nI 5 = nI 5) (rfl : (6 : Int32) = nI 6) (by omega) (by omega) (by omega))) (rfl : (0 : Int32) = nI 0) (by omega) (by omega) (by omega)))
  refine v_iload_n C eX12_slh_171 rfl 2 rfl ?_
  refine v_iconst (v := (1 : Int32)) C eX12_slh_172 (by decide) ?_
  refine v_icmp_eq (tgt := 181) C eX12_slh_173 (by decide) (fun h => absurd h (ix_ne (a := 5 % 6) (b := 1) (ht1.trans (ix_rem (a := 5) (d := 6) (rfl : nI 5 = nI 5) (rfl : (6 : Int32) = nI 6) (by omega) (by omega) (by omega))) (rfl : (1 : Int32) = nI 1) (by omega) (by omega) (by omega))) (fun _ => ?_)
  refine v_iload_n C eX12_slh_176 rfl 2 rfl ?_
  refine v_iconst (v := (3 : Int32)) C eX12_slh_177 (by decide) ?_
  refine v_icmp_ne (tgt := 186) C eX12_slh_178 (by decide) (fun _ => ?_) (fun h => absurd h (ix_ne (a := 5 % 6) (b := 3) (ht1.trans (ix_rem (a := 5) (d := 6) (rfl : nI 5 = nI 5) (rfl : (6 : Int32) = nI 6) (by omega) (by omega) (by omega))) (rfl : (3 : Int32) = nI 3) (by omega) (by omega) (by omega)))
  refine v_iload_n C eX12_slh_186 rfl 2 rfl ?_
  refine v_iconst (v := (2 : Int32)) C eX12_slh_187 (by decide) ?_
  refine v_icmp_ne (tgt := 196) C eX12_slh_188 (by decide) (fun _ => ?_) (fun h => absurd h (ix_ne (a := 5 % 6) (b := 2) (ht1.trans (ix_rem (a := 5) (d := 6) (rfl : nI 5 = nI 5) (rfl : (6 : Int32) = nI 6) (by omega) (by omega) (by omega))) (rfl : (2 : Int32) = nI 2) (by omega) (by omega) (by omega)))
  refine v_iload_n C eX12_slh_196 rfl 2 rfl ?_
  refine v_iconst (v := (4 : Int32)) C eX12_slh_197 (by decide) ?_
  refine v_icmp_ne (tgt := 206) C eX12_slh_198 (by decide) (fun _ => ?_) (fun h => absurd h (ix_ne (a := 5 % 6) (b := 4) (ht1.trans (ix_rem (a := 5) (d := 6) (rfl : nI 5 = nI 5) (rfl : (6 : Int32) = nI 6) (by omega) (by omega) (by omega))) (rfl : (4 : Int32) = nI 4) (by omega) (by omega) (by omega)))
  refine v_bipush (v := (35 : Int32)) C eX12_slh_206 (by decide) ?_
  refine n_put (fs' := mO ad (upd (upd (upd (upd (upd ((ox σ)) 41 ((32 : Int32))) 42 ((68 : Int32))) 43 ((17 : Int32))) 45 ((9 : Int32))) 46 ((35 : Int32))) ((ot σ))) C I fX12_255_X12p eX12_slh_208 (hN 49 (by decide)) rfl rfl rfl (Nat.le_of_ble_eq_true rfl) rfl ?_
  refine v_aload_n C eX12_slh_211 rfl 0 rfl ?_
  refine v_aload_n C eX12_slh_212 rfl 0 rfl ?_
  refine n_get C I fX12_246_X12 eX12_slh_213 (hN 49 (by decide)) rfl rfl ?_
  refine v_aload_n C eX12_slh_216 rfl 0 rfl ?_
  refine n_get C I fX12_249_X12 eX12_slh_217 (hN 49 (by decide)) rfl rfl ?_
  refine v_idiv C eX12_slh_220 (show ¬ (17 : Int32) = 0 by decide) ?_
  refine n_put (fs' := mO ad (upd (upd (upd (upd (upd (upd ((ox σ)) 41 ((32 : Int32))) 42 ((68 : Int32))) 43 ((17 : Int32))) 44 (((68 : Int32)) / ((17 : Int32)))) 45 ((9 : Int32))) 46 ((35 : Int32))) ((ot σ))) C I fX12_258_X12p eX12_slh_221 (hN 49 (by decide)) rfl rfl rfl (Nat.le_of_ble_eq_true rfl) rfl ?_
  refine v_aload_n C eX12_slh_224 rfl 0 rfl ?_
  refine v_iconst (v := (2 : Int32)) C eX12_slh_225 (by decide) ?_
  refine v_aload_n C eX12_slh_226 rfl 0 rfl ?_
  refine n_get C I fX12_243_X12 eX12_slh_227 (hN 49 (by decide)) rfl rfl ?_
  refine v_imul C eX12_slh_230 ?_
  refine v_iconst (v := (3 : Int32)) C eX12_slh_231 (by decide) ?_
  refine v_iadd C eX12_slh_232 ?_
  refine n_put (fs' := mO ad (upd (upd (upd (upd (upd (upd (upd ((ox σ)) 41 ((32 : Int32))) 42 ((68 : Int32))) 43 ((17 : Int32))) 44 (((68 : Int32)) / ((17 : Int32)))) 45 ((9 : Int32))) 46 ((35 : Int32))) 47 ((((2 : Int32)) * ((32 : Int32))) + ((3 : Int32)))) ((ot σ))) C I fX12_261_X12p eX12_slh_233 (hN 49 (by decide)) rfl rfl rfl (Nat.le_of_ble_eq_true rfl) rfl ?_
  refine v_aload_n C eX12_slh_236 rfl 0 rfl ?_
  refine v_iload_n C eX12_slh_237 rfl 1 rfl ?_
  refine v_bipush (v := (6 : Int32)) C eX12_slh_238 (by decide) ?_
  refine v_icmp_ge (tgt := 247) C eX12_slh_240 (by decide) (fun h => absurd h (ix_nle (a := 6) (b := 5) (rfl : (6 : Int32) = nI 6) (rfl : nI 5 = nI 5) (by omega) (by omega) (by omega))) (fun _ => ?_)
  refine v_iconst (v := (1 : Int32)) C eX12_slh_243 (by decide) ?_
  refine v_goto (tgt := 248) C eX12_slh_244 (by decide) ?_
  refine n_put (fs' := mO ad (upd (upd (upd (upd (upd (upd (upd (upd ((ox σ)) 41 ((32 : Int32))) 42 ((68 : Int32))) 43 ((17 : Int32))) 44 (((68 : Int32)) / ((17 : Int32)))) 45 ((9 : Int32))) 46 ((35 : Int32))) 47 ((((2 : Int32)) * ((32 : Int32))) + ((3 : Int32)))) 48 ((1 : Int32))) ((ot σ))) C I fX12_264_X12p eX12_slh_248 (hN 49 (by decide)) rfl rfl rfl (Nat.le_of_ble_eq_true rfl) rfl ?_
  refine v_eq (w' := nW ad N (va_up σ 49 (eO 9 (mO ad (upd (upd (upd (upd (upd (upd (upd (upd ((ox σ)) 41 ((32 : Int32))) 42 ((68 : Int32))) 43 ((17 : Int32))) 44 (((68 : Int32)) / ((17 : Int32)))) 45 ((9 : Int32))) 46 ((35 : Int32))) 47 ((((2 : Int32)) * ((32 : Int32))) + ((3 : Int32)))) 48 ((1 : Int32))) ((ot σ)))))) (congrArg (nW ad N) (n_extL [49] ⟨rfl, trivial⟩ (fun q h => by simp only [List.mem_cons, List.not_mem_nil, or_false, not_or] at h; simp [va_up, h]))) rfl rfl ?_
  refine v_pic (fun ρ hρ => ?_)
  have hC1 : RS G ad θ (xS x 5) ρ := by
    rw [hρ]; exact hC.upO ⟨hC.i3, hC.i4, (show ((32 : Int32) : Int32) = nI 32 by decide), (show ((68 : Int32) : Int32) = nI 68 by decide), (show ((17 : Int32) : Int32) = nI 17 by decide), (show (((68 : Int32)) / ((17 : Int32)) : Int32) = nI 4 by decide), (show ((9 : Int32) : Int32) = nI 9 by decide), (show ((35 : Int32) : Int32) = nI 35 by decide), (show ((((2 : Int32)) * ((32 : Int32))) + ((3 : Int32)) : Int32) = nI 67 by decide), (show ((1 : Int32) : Int32) = 1 by decide)⟩
  have hk1 : ∀ k, ¬ (k = 28 ∨ k = 49) → ρ k = σ k := fun k hk => by rw [hρ]; exact n_ne (by omega)
  refine v_iconst (v := nI 0) C eX12_slh_251 (by decide) ?_
  refine v_istore_n (lv' := [(0, .ref (ad 49)), (1, .int (nI 5)), (2, .int t1), (3, .int (nI 0))]) C eX12_slh_252 rfl (by decide) [1, 2, 3, 0] rfl ?_
  refine v_pick (lv' := [(0, .ref (ad 49)), (1, .int (nI 5)), (3, .int (nI 0))]) [0, 1, 3] rfl ?_
  refine v_forP (fun j τ => RS G ad θ (xS x 5) τ ∧ (∀ k, ¬ (k = 28 ∨ k = 49) → τ k = σ k)) (fun j => [(0, .ref (ad 49)), (1, .int (nI 5)), (3, .int (nI j))]) 32 ?_ ?_ _ ⟨hC1, hk1⟩
  · intro τ hI
    obtain ⟨hC2, hk2⟩ := hI
    refine v_iload_n C eX12_slh_253 rfl 2 rfl ?_
    refine v_bipush (v := (32 : Int32)) C eX12_slh_254 (by decide) ?_
    refine v_icmp_ge (tgt := 272) C eX12_slh_256 (by decide) (fun _ => ?_) (fun h => absurd (ix_le (a := 32) (b := 32) (rfl : (32 : Int32) = nI 32) (rfl : nI 32 = nI 32) (by omega) (by omega) (by omega)) h)
    exact n_vret C rfl eX12_slh_272 ⟨rfl, hC2, hk2⟩
  · intro j hj ih τ hI
    obtain ⟨hC2, hk2⟩ := hI
    refine v_iload_n C eX12_slh_253 rfl 2 rfl ?_
    refine v_bipush (v := (32 : Int32)) C eX12_slh_254 (by decide) ?_
    refine v_icmp_ge (tgt := 272) C eX12_slh_256 (by decide) (fun h => absurd h (ix_nle (a := 32) (b := j) (rfl : (32 : Int32) = nI 32) (rfl : nI j = nI j) (by omega) (by omega) (by omega))) (fun _ => ?_)
    refine v_aload_n C eX12_slh_259 rfl 0 rfl ?_
    refine n_get C I fX12_81_X12 eX12_slh_260 (hN 49 (by decide)) hC2.obj rfl ?_
    refine v_iload_n C eX12_slh_263 rfl 2 rfl ?_
    refine v_iconst (v := (0 : Int32)) C eX12_slh_264 (by decide) ?_
    refine n_bast C I eX12_slh_265 (hN 28 (by decide)) (hC2.b 28 32 rfl (by decide)) j (rfl : nI j = nI j) (by omega) (by decide) ?_
    refine v_iinc (lv' := [(0, .ref (ad 49)), (1, .int (nI 5)), (3, .int (nI (j + 1)))]) C eX12_slh_266 2 rfl (ix_inc _) (by decide) [1, 2, 0] rfl ?_
    refine v_goto (tgt := 253) C eX12_slh_269 (by decide) ?_
    exact ih _ ⟨hC2.up rfl (by decide) _, fun k hk => (n_ne (by omega)).trans (hk2 k hk)⟩

set_option maxRecDepth 100000 in
set_option maxHeartbeats 4000000 in
theorem rs_slh6 (I : nI1 ad N) (hN : ∀ k, k < 74 → k < N) (hC : RS G ad θ x σ) : nOk G B l ad N yX12_slh cX12_slh 4 none 0 0 0 [.ref (ad 49), .int (nI 6)] σ (fun r σ' => r = none ∧ RS G ad θ (xS x 6) σ' ∧ (∀ k, ¬ (k = 28 ∨ k = 49) → σ' k = σ k)) := by
  refine vOk.of (by decide +kernel) (Nat.le_of_ble_eq_true rfl) ?_
  intro p e s m args below meth c C
  refine v_eq (lv' := [(0, .ref (ad 49)), (1, .int (nI 6))]) rfl rfl rfl ?_
  refine v_iload_n C eX12_slh_0 rfl 1 rfl ?_
  refine v_bipush (v := (6 : Int32)) C eX12_slh_1 (by decide) ?_
  refine v_irem C eX12_slh_3 (by decide) ?_
  refine v_topi (fun t1 ht1 => ?_)
  refine v_istore_n (lv' := [(0, .ref (ad 49)), (1, .int (nI 6)), (2, .int t1)]) C eX12_slh_4 rfl (by decide) [1, 2, 0] rfl ?_
  refine v_aload_n C eX12_slh_5 rfl 0 rfl ?_
  refine v_iload_n C eX12_slh_6 rfl 2 rfl ?_
  refine v_iconst (v := (2 : Int32)) C eX12_slh_7 (by decide) ?_
  refine v_icmp_ge (tgt := 16) C eX12_slh_8 (by decide) (fun h => absurd h (ix_nle (a := 2) (b := 6 % 6) (rfl : (2 : Int32) = nI 2) (ht1.trans (ix_rem (a := 6) (d := 6) (rfl : nI 6 = nI 6) (rfl : (6 : Int32) = nI 6) (by omega) (by omega) (by omega))) (by omega) (by omega) (by omega))) (fun _ => ?_)
  refine v_bipush (v := (16 : Int32)) C eX12_slh_11 (by decide) ?_
  refine v_goto (tgt := 28) C eX12_slh_13 (by decide) ?_
  refine n_put (fs' := mO ad (upd ((ox σ)) 41 ((16 : Int32))) ((ot σ))) C I fX12_243_X12p eX12_slh_28 (hN 49 (by decide)) hC.obj rfl rfl (Nat.le_of_ble_eq_true rfl) rfl ?_
  refine v_aload_n C eX12_slh_31 rfl 0 rfl ?_
  refine v_iload_n C eX12_slh_32 rfl 2 rfl ?_
  refine v_if_eq (tgt := 41) C eX12_slh_33 (by decide) (fun _ => ?_) (fun h => absurd (ix_eq (a := 6 % 6) (b := 0) (ht1.trans (ix_rem (a := 6) (d := 6) (rfl : nI 6 = nI 6) (rfl : (6 : Int32) = nI 6) (by omega) (by omega) (by omega))) (rfl : (0 : Int32) = nI 0) (by omega) (by omega) (by omega)) h)
  refine v_bipush (v := (63 : Int32)) C eX12_slh_41 (by decide) ?_
  refine v_goto (tgt := 68) C eX12_slh_43 (by decide) ?_
  refine n_put (fs' := mO ad (upd (upd ((ox σ)) 41 ((16 : Int32))) 42 ((63 : Int32))) ((ot σ))) C I fX12_246_X12p eX12_slh_68 (hN 49 (by decide)) rfl rfl rfl (Nat.le_of_ble_eq_true rfl) rfl ?_
  refine v_aload_n C eX12_slh_71 rfl 0 rfl ?_
  refine v_iload_n C eX12_slh_72 rfl 2 rfl ?_
  refine v_if_eq (tgt := 81) C eX12_slh_73 (by decide) (fun _ => ?_) (fun h => absurd (ix_eq (a := 6 % 6) (b := 0) (ht1.trans (ix_rem (a := 6) (d := 6) (rfl : nI 6 = nI 6) (rfl : (6 : Int32) = nI 6) (by omega) (by omega) (by omega))) (rfl : (0 : Int32) = nI 0) (by omega) (by omega) (by omega)) h)
  refine v_bipush (v := (7 : Int32)) C eX12_slh_81 (by decide) ?_
  refine v_goto (tgt := 108) C eX12_slh_83 (by decide) ?_
  refine n_put (fs' := mO ad (upd (upd (upd ((ox σ)) 41 ((16 : Int32))) 42 ((63 : Int32))) 43 ((7 : Int32))) ((ot σ))) C I fX12_249_X12p eX12_slh_108 (hN 49 (by decide)) rfl rfl rfl (Nat.le_of_ble_eq_true rfl) rfl ?_
  refine v_aload_n C eX12_slh_111 rfl 0 rfl ?_
  refine v_iload_n C eX12_slh_112 rfl 2 rfl ?_
  refine v_if_ne (tgt := 121) C eX12_slh_113 (by decide) (fun h => absurd (ix_eq (a := 6 % 6) (b := 0) (ht1.trans (ix_rem (a := 6) (d := 6) (rfl : nI 6 = nI 6) (rfl : (6 : Int32) = nI 6) (by omega) (by omega) (by omega))) (rfl : (0 : Int32) = nI 0) (by omega) (by omega) (by omega)) h) (fun _ => ?_)
  refine v_bipush (v := (12 : Int32)) C eX12_slh_116 (by decide) ?_
  refine v_goto (tgt := 158) C eX12_slh_118 (by decide) ?_
  refine n_put (fs' := mO ad (upd (upd (upd (upd ((ox σ)) 41 ((16 : Int32))) 42 ((63 : Int32))) 43 ((7 : Int32))) 45 ((12 : Int32))) ((ot σ))) C I fX12_252_X12p eX12_slh_158 (hN 49 (by decide)) rfl rfl rfl (Nat.le_of_ble_eq_true rfl) rfl ?_
  refine v_aload_n C eX12_slh_161 rfl 0 rfl ?_
  refine v_iload_n C eX12_slh_162 rfl 2 rfl ?_
  refine v_if_ne (tgt := 171) C eX12_slh_163 (by decide) (fun h => absurd (ix_eq (a := 6 % 6) (b := 0) (ht1.trans (ix_rem (a := 6) (d := 6) (rfl : nI 6 = nI 6) (rfl : (6 : Int32) = nI 6) (by omega) (by omega) (by omega))) (rfl : (0 : Int32) = nI 0) (by omega) (by omega) (by omega)) h) (fun _ => ?_)
  refine v_bipush (v := (14 : Int32)) C eX12_slh_166 (by decide) ?_
  refine v_goto (tgt := 208) C eX12_slh_168 (by decide) ?_
  refine n_put (fs' := mO ad (upd (upd (upd (upd (upd ((ox σ)) 41 ((16 : Int32))) 42 ((63 : Int32))) 43 ((7 : Int32))) 45 ((12 : Int32))) 46 ((14 : Int32))) ((ot σ))) C I fX12_255_X12p eX12_slh_208 (hN 49 (by decide)) rfl rfl rfl (Nat.le_of_ble_eq_true rfl) rfl ?_
  refine v_aload_n C eX12_slh_211 rfl 0 rfl ?_
  refine v_aload_n C eX12_slh_212 rfl 0 rfl ?_
  refine n_get C I fX12_246_X12 eX12_slh_213 (hN 49 (by decide)) rfl rfl ?_
  refine v_aload_n C eX12_slh_216 rfl 0 rfl ?_
  refine n_get C I fX12_249_X12 eX12_slh_217 (hN 49 (by decide)) rfl rfl ?_
  refine v_idiv C eX12_slh_220 (show ¬ (7 : Int32) = 0 by decide) ?_
  refine n_put (fs' := mO ad (upd (upd (upd (upd (upd (upd ((ox σ)) 41 ((16 : Int32))) 42 ((63 : Int32))) 43 ((7 : Int32))) 44 (((63 : Int32)) / ((7 : Int32)))) 45 ((12 : Int32))) 46 ((14 : Int32))) ((ot σ))) C I fX12_258_X12p eX12_slh_221 (hN 49 (by decide)) rfl rfl rfl (Nat.le_of_ble_eq_true rfl) rfl ?_
  refine v_aload_n C eX12_slh_224 rfl 0 rfl ?_
  refine v_iconst (v := (2 : Int32)) C eX12_slh_225 (by decide) ?_
  refine v_aload_n C eX12_slh_226 rfl 0 rfl ?_
  refine n_get C I fX12_243_X12 eX12_slh_227 (hN 49 (by decide)) rfl rfl ?_
  refine v_imul C eX12_slh_230 ?_
  refine v_iconst (v := (3 : Int32)) C eX12_slh_231 (by decide) ?_
  refine v_iadd C eX12_slh_232 ?_
  refine n_put (fs' := mO ad (upd (upd (upd (upd (upd (upd (upd ((ox σ)) 41 ((16 : Int32))) 42 ((63 : Int32))) 43 ((7 : Int32))) 44 (((63 : Int32)) / ((7 : Int32)))) 45 ((12 : Int32))) 46 ((14 : Int32))) 47 ((((2 : Int32)) * ((16 : Int32))) + ((3 : Int32)))) ((ot σ))) C I fX12_261_X12p eX12_slh_233 (hN 49 (by decide)) rfl rfl rfl (Nat.le_of_ble_eq_true rfl) rfl ?_
  refine v_aload_n C eX12_slh_236 rfl 0 rfl ?_
  refine v_iload_n C eX12_slh_237 rfl 1 rfl ?_
  refine v_bipush (v := (6 : Int32)) C eX12_slh_238 (by decide) ?_
  refine v_icmp_ge (tgt := 247) C eX12_slh_240 (by decide) (fun _ => ?_) (fun h => absurd (ix_le (a := 6) (b := 6) (rfl : (6 : Int32) = nI 6) (rfl : nI 6 = nI 6) (by omega) (by omega) (by omega)) h)
  refine v_iconst (v := (0 : Int32)) C eX12_slh_247 (by decide) ?_
  refine n_put (fs' := mO ad (upd (upd (upd (upd (upd (upd (upd (upd ((ox σ)) 41 ((16 : Int32))) 42 ((63 : Int32))) 43 ((7 : Int32))) 44 (((63 : Int32)) / ((7 : Int32)))) 45 ((12 : Int32))) 46 ((14 : Int32))) 47 ((((2 : Int32)) * ((16 : Int32))) + ((3 : Int32)))) 48 ((0 : Int32))) ((ot σ))) C I fX12_264_X12p eX12_slh_248 (hN 49 (by decide)) rfl rfl rfl (Nat.le_of_ble_eq_true rfl) rfl ?_
  refine v_eq (w' := nW ad N (va_up σ 49 (eO 9 (mO ad (upd (upd (upd (upd (upd (upd (upd (upd ((ox σ)) 41 ((16 : Int32))) 42 ((63 : Int32))) 43 ((7 : Int32))) 44 (((63 : Int32)) / ((7 : Int32)))) 45 ((12 : Int32))) 46 ((14 : Int32))) 47 ((((2 : Int32)) * ((16 : Int32))) + ((3 : Int32)))) 48 ((0 : Int32))) ((ot σ)))))) (congrArg (nW ad N) (n_extL [49] ⟨rfl, trivial⟩ (fun q h => by simp only [List.mem_cons, List.not_mem_nil, or_false, not_or] at h; simp [va_up, h]))) rfl rfl ?_
  refine v_pic (fun ρ hρ => ?_)
  have hC1 : RS G ad θ (xS x 6) ρ := by
    rw [hρ]; exact hC.upO ⟨hC.i3, hC.i4, (show ((16 : Int32) : Int32) = nI 16 by decide), (show ((63 : Int32) : Int32) = nI 63 by decide), (show ((7 : Int32) : Int32) = nI 7 by decide), (show (((63 : Int32)) / ((7 : Int32)) : Int32) = nI 9 by decide), (show ((12 : Int32) : Int32) = nI 12 by decide), (show ((14 : Int32) : Int32) = nI 14 by decide), (show ((((2 : Int32)) * ((16 : Int32))) + ((3 : Int32)) : Int32) = nI 35 by decide), (show ((0 : Int32) : Int32) = 0 by decide)⟩
  have hk1 : ∀ k, ¬ (k = 28 ∨ k = 49) → ρ k = σ k := fun k hk => by rw [hρ]; exact n_ne (by omega)
  refine v_iconst (v := nI 0) C eX12_slh_251 (by decide) ?_
  refine v_istore_n (lv' := [(0, .ref (ad 49)), (1, .int (nI 6)), (2, .int t1), (3, .int (nI 0))]) C eX12_slh_252 rfl (by decide) [1, 2, 3, 0] rfl ?_
  refine v_pick (lv' := [(0, .ref (ad 49)), (1, .int (nI 6)), (3, .int (nI 0))]) [0, 1, 3] rfl ?_
  refine v_forP (fun j τ => RS G ad θ (xS x 6) τ ∧ (∀ k, ¬ (k = 28 ∨ k = 49) → τ k = σ k)) (fun j => [(0, .ref (ad 49)), (1, .int (nI 6)), (3, .int (nI j))]) 32 ?_ ?_ _ ⟨hC1, hk1⟩
  · intro τ hI
    obtain ⟨hC2, hk2⟩ := hI
    refine v_iload_n C eX12_slh_253 rfl 2 rfl ?_
    refine v_bipush (v := (32 : Int32)) C eX12_slh_254 (by decide) ?_
    refine v_icmp_ge (tgt := 272) C eX12_slh_256 (by decide) (fun _ => ?_) (fun h => absurd (ix_le (a := 32) (b := 32) (rfl : (32 : Int32) = nI 32) (rfl : nI 32 = nI 32) (by omega) (by omega) (by omega)) h)
    exact n_vret C rfl eX12_slh_272 ⟨rfl, hC2, hk2⟩
  · intro j hj ih τ hI
    obtain ⟨hC2, hk2⟩ := hI
    refine v_iload_n C eX12_slh_253 rfl 2 rfl ?_
    refine v_bipush (v := (32 : Int32)) C eX12_slh_254 (by decide) ?_
    refine v_icmp_ge (tgt := 272) C eX12_slh_256 (by decide) (fun h => absurd h (ix_nle (a := 32) (b := j) (rfl : (32 : Int32) = nI 32) (rfl : nI j = nI j) (by omega) (by omega) (by omega))) (fun _ => ?_)
    refine v_aload_n C eX12_slh_259 rfl 0 rfl ?_
    refine n_get C I fX12_81_X12 eX12_slh_260 (hN 49 (by decide)) hC2.obj rfl ?_
    refine v_iload_n C eX12_slh_263 rfl 2 rfl ?_
    refine v_iconst (v := (0 : Int32)) C eX12_slh_264 (by decide) ?_
    refine n_bast C I eX12_slh_265 (hN 28 (by decide)) (hC2.b 28 32 rfl (by decide)) j (rfl : nI j = nI j) (by omega) (by decide) ?_
    refine v_iinc (lv' := [(0, .ref (ad 49)), (1, .int (nI 6)), (3, .int (nI (j + 1)))]) C eX12_slh_266 2 rfl (ix_inc _) (by decide) [1, 2, 0] rfl ?_
    refine v_goto (tgt := 253) C eX12_slh_269 (by decide) ?_
    exact ih _ ⟨hC2.up rfl (by decide) _, fun k hk => (n_ne (by omega)).trans (hk2 k hk)⟩

set_option maxRecDepth 100000 in
set_option maxHeartbeats 4000000 in
theorem rs_slh7 (I : nI1 ad N) (hN : ∀ k, k < 74 → k < N) (hC : RS G ad θ x σ) : nOk G B l ad N yX12_slh cX12_slh 4 none 0 0 0 [.ref (ad 49), .int (nI 7)] σ (fun r σ' => r = none ∧ RS G ad θ (xS x 7) σ' ∧ (∀ k, ¬ (k = 28 ∨ k = 49) → σ' k = σ k)) := by
  refine vOk.of (by decide +kernel) (Nat.le_of_ble_eq_true rfl) ?_
  intro p e s m args below meth c C
  refine v_eq (lv' := [(0, .ref (ad 49)), (1, .int (nI 7))]) rfl rfl rfl ?_
  refine v_iload_n C eX12_slh_0 rfl 1 rfl ?_
  refine v_bipush (v := (6 : Int32)) C eX12_slh_1 (by decide) ?_
  refine v_irem C eX12_slh_3 (by decide) ?_
  refine v_topi (fun t1 ht1 => ?_)
  refine v_istore_n (lv' := [(0, .ref (ad 49)), (1, .int (nI 7)), (2, .int t1)]) C eX12_slh_4 rfl (by decide) [1, 2, 0] rfl ?_
  refine v_aload_n C eX12_slh_5 rfl 0 rfl ?_
  refine v_iload_n C eX12_slh_6 rfl 2 rfl ?_
  refine v_iconst (v := (2 : Int32)) C eX12_slh_7 (by decide) ?_
  refine v_icmp_ge (tgt := 16) C eX12_slh_8 (by decide) (fun h => absurd h (ix_nle (a := 2) (b := 7 % 6) (rfl : (2 : Int32) = nI 2) (ht1.trans (ix_rem (a := 7) (d := 6) (rfl : nI 7 = nI 7) (rfl : (6 : Int32) = nI 6) (by omega) (by omega) (by omega))) (by omega) (by omega) (by omega))) (fun _ => ?_)
  refine v_bipush (v := (16 : Int32)) C eX12_slh_11 (by decide) ?_
  refine v_goto (tgt := 28) C eX12_slh_13 (by decide) ?_
  refine n_put (fs' := mO ad (upd ((ox σ)) 41 ((16 : Int32))) ((ot σ))) C I fX12_243_X12p eX12_slh_28 (hN 49 (by decide)) hC.obj rfl rfl (Nat.le_of_ble_eq_true rfl) rfl ?_
  refine v_aload_n C eX12_slh_31 rfl 0 rfl ?_
  refine v_iload_n C eX12_slh_32 rfl 2 rfl ?_
  refine v_if_eq (tgt := 41) C eX12_slh_33 (by decide) (fun h => absurd h (ix_ne (a := 7 % 6) (b := 0) (ht1.trans (ix_rem (a := 7) (d := 6) (rfl : nI 7 = nI 7) (rfl : (6 : Int32) = nI 6) (by omega) (by omega) (by omega))) (rfl : (0 : Int32) = nI 0) (by omega) (by omega) (by omega))) (fun _ => ?_)
  refine v_iload_n C eX12_slh_36 rfl 2 rfl ?_
  refine v_iconst (v := (2 : Int32)) C eX12_slh_37 (by decide) ?_
  refine v_icmp_ne (tgt := 46) C eX12_slh_38 (by decide) (fun _ => ?_) (fun h => absurd h (ix_ne (a := 7 % 6) (b := 2) (ht1.trans (ix_rem (a := 7) (d := 6) (rfl : nI 7 = nI 7) (rfl : (6 : Int32) = nI 6) (by omega) (by omega) (by omega))) (rfl : (2 : Int32) = nI 2) (by omega) (by omega) (by omega)))
  refine v_iload_n C eX12_slh_46 rfl 2 rfl ?_
  refine v_iconst (v := (4 : Int32)) C eX12_slh_47 (by decide) ?_
  refine v_icmp_ne (tgt := 56) C eX12_slh_48 (by decide) (fun _ => ?_) (fun h => absurd h (ix_ne (a := 7 % 6) (b := 4) (ht1.trans (ix_rem (a := 7) (d := 6) (rfl : nI 7 = nI 7) (rfl : (6 : Int32) = nI 6) (by omega) (by omega) (by omega))) (rfl : (4 : Int32) = nI 4) (by omega) (by omega) (by omega)))
  refine v_iload_n C eX12_slh_56 rfl 2 rfl ?_
  refine v_iconst (v := (5 : Int32)) C eX12_slh_57 (by decide) ?_
  refine v_icmp_ne (tgt := 66) C eX12_slh_58 (by decide) (fun _ => ?_) (fun h => absurd h (ix_ne (a := 7 % 6) (b := 5) (ht1.trans (ix_rem (a := 7) (d := 6) (rfl : nI 7 = nI 7) (rfl : (6 : Int32) = nI 6) (by omega) (by omega) (by omega))) (rfl : (5 : Int32) = nI 5) (by omega) (by omega) (by omega)))
  refine v_bipush (v := (66 : Int32)) C eX12_slh_66 (by decide) ?_
  refine n_put (fs' := mO ad (upd (upd ((ox σ)) 41 ((16 : Int32))) 42 ((66 : Int32))) ((ot σ))) C I fX12_246_X12p eX12_slh_68 (hN 49 (by decide)) rfl rfl rfl (Nat.le_of_ble_eq_true rfl) rfl ?_
  refine v_aload_n C eX12_slh_71 rfl 0 rfl ?_
  refine v_iload_n C eX12_slh_72 rfl 2 rfl ?_
  refine v_if_eq (tgt := 81) C eX12_slh_73 (by decide) (fun h => absurd h (ix_ne (a := 7 % 6) (b := 0) (ht1.trans (ix_rem (a := 7) (d := 6) (rfl : nI 7 = nI 7) (rfl : (6 : Int32) = nI 6) (by omega) (by omega) (by omega))) (rfl : (0 : Int32) = nI 0) (by omega) (by omega) (by omega))) (fun _ => ?_)
  refine v_iload_n C eX12_slh_76 rfl 2 rfl ?_
  refine v_iconst (v := (2 : Int32)) C eX12_slh_77 (by decide) ?_
  refine v_icmp_ne (tgt := 86) C eX12_slh_78 (by decide) (fun _ => ?_) (fun h => absurd h (ix_ne (a := 7 % 6) (b := 2) (ht1.trans (ix_rem (a := 7) (d := 6) (rfl : nI 7 = nI 7) (rfl : (6 : Int32) = nI 6) (by omega) (by omega) (by omega))) (rfl : (2 : Int32) = nI 2) (by omega) (by omega) (by omega)))
  refine v_iload_n C eX12_slh_86 rfl 2 rfl ?_
  refine v_iconst (v := (4 : Int32)) C eX12_slh_87 (by decide) ?_
  refine v_icmp_ne (tgt := 96) C eX12_slh_88 (by decide) (fun _ => ?_) (fun h => absurd h (ix_ne (a := 7 % 6) (b := 4) (ht1.trans (ix_rem (a := 7) (d := 6) (rfl : nI 7 = nI 7) (rfl : (6 : Int32) = nI 6) (by omega) (by omega) (by omega))) (rfl : (4 : Int32) = nI 4) (by omega) (by omega) (by omega)))
  refine v_iload_n C eX12_slh_96 rfl 2 rfl ?_
  refine v_iconst (v := (5 : Int32)) C eX12_slh_97 (by decide) ?_
  refine v_icmp_ne (tgt := 106) C eX12_slh_98 (by decide) (fun _ => ?_) (fun h => absurd h (ix_ne (a := 7 % 6) (b := 5) (ht1.trans (ix_rem (a := 7) (d := 6) (rfl : nI 7 = nI 7) (rfl : (6 : Int32) = nI 6) (by omega) (by omega) (by omega))) (rfl : (5 : Int32) = nI 5) (by omega) (by omega) (by omega)))
  refine v_bipush (v := (22 : Int32)) C eX12_slh_106 (by decide) ?_
  refine n_put (fs' := mO ad (upd (upd (upd ((ox σ)) 41 ((16 : Int32))) 42 ((66 : Int32))) 43 ((22 : Int32))) ((ot σ))) C I fX12_249_X12p eX12_slh_108 (hN 49 (by decide)) rfl rfl rfl (Nat.le_of_ble_eq_true rfl) rfl ?_
  refine v_aload_n C eX12_slh_111 rfl 0 rfl ?_
  refine v_iload_n C eX12_slh_112 rfl 2 rfl ?_
  refine v_if_ne (tgt := 121) C eX12_slh_113 (by decide) (fun _ => ?_) (fun h => absurd h (ix_ne (a := 7 % 6) (b := 0) (ht1.trans (ix_rem (a := 7) (d := 6) (rfl : nI 7 = nI 7) (rfl : (6 : Int32) = nI 6) (by omega) (by omega) (by omega))) (rfl : (0 : Int32) = nI 0) (by omega) (by omega) (by omega)))
  refine v_iload_n C eX12_slh_121 rfl 2 rfl ?_
  refine v_iconst (v := (1 : Int32)) C eX12_slh_122 (by decide) ?_
  refine v_icmp_ne (tgt := 131) C eX12_slh_123 (by decide) (fun h => absurd (ix_eq (a := 7 % 6) (b := 1) (ht1.trans (ix_rem (a := 7) (d := 6) (rfl : nI 7 = nI 7) (rfl : (6 : Int32) = nI 6) (by omega) (by omega) (by omega))) (rfl : (1 : Int32) = nI 1) (by omega) (by omega) (by omega)) h) (fun _ => ?_)
  refine v_bipush (v := (6 : Int32)) C eX12_slh_126 (by decide) ?_
  refine v_goto (tgt := 158) C eX12_slh_128 (by decide) ?_
  refine n_put (fs' := mO ad (upd (upd (upd (upd ((ox σ)) 41 ((16 : Int32))) 42 ((66 : Int32))) 43 ((22 : Int32))) 45 ((6 : Int32))) ((ot σ))) C I fX12_252_X12p eX12_slh_158 (hN 49 (by decide)) rfl rfl rfl (Nat.le_of_ble_eq_true rfl) rfl ?_
  refine v_aload_n C eX12_slh_161 rfl 0 rfl ?_
  refine v_iload_n C eX12_slh_162 rfl 2 rfl ?_
  refine v_if_ne (tgt := 171) C eX12_slh_163 (by decide) (fun _ => ?_) (fun h => absurd h (ix_ne (a := 7 % 6) (b := 0) (ht1.trans (ix_rem (a := 7) (d := 6) (rfl : nI 7 = nI 7) (rfl : (6 : Int32) = nI 6) (by omega) (by omega) (by omega))) (rfl : (0 : Int32) = nI 0) (by omega) (by omega) (by omega)))
  refine v_iload_n C eX12_slh_171 rfl 2 rfl ?_
  refine v_iconst (v := (1 : Int32)) C eX12_slh_172 (by decide) ?_
  refine v_icmp_eq (tgt := 181) C eX12_slh_173 (by decide) (fun _ => ?_) (fun h => absurd (ix_eq (a := 7 % 6) (b := 1) (ht1.trans (ix_rem (a := 7) (d := 6) (rfl : nI 7 = nI 7) (rfl : (6 : Int32) = nI 6) (by omega) (by omega) (by omega))) (rfl : (1 : Int32) = nI 1) (by omega) (by omega) (by omega)) h)
  refine v_bipush (v := (33 : Int32)) C eX12_slh_181 (by decide) ?_
  refine v_goto (tgt := 208) C eX12_slh_183 (by decide) ?_
  refine n_put (fs' := mO ad (upd (upd (upd (upd (upd ((ox σ)) 41 ((16 : Int32))) 42 ((66 : Int32))) 43 ((22 : Int32))) 45 ((6 : Int32))) 46 ((33 : Int32))) ((ot σ))) C I fX12_255_X12p eX12_slh_208 (hN 49 (by decide)) rfl rfl rfl (Nat.le_of_ble_eq_true rfl) rfl ?_
  refine v_aload_n C eX12_slh_211 rfl 0 rfl ?_
  refine v_aload_n C eX12_slh_212 rfl 0 rfl ?_
  refine n_get C I fX12_246_X12 eX12_slh_213 (hN 49 (by decide)) rfl rfl ?_
  refine v_aload_n C eX12_slh_216 rfl 0 rfl ?_
  refine n_get C I fX12_249_X12 eX12_slh_217 (hN 49 (by decide)) rfl rfl ?_
  refine v_idiv C eX12_slh_220 (show ¬ (22 : Int32) = 0 by decide) ?_
  refine n_put (fs' := mO ad (upd (upd (upd (upd (upd (upd ((ox σ)) 41 ((16 : Int32))) 42 ((66 : Int32))) 43 ((22 : Int32))) 44 (((66 : Int32)) / ((22 : Int32)))) 45 ((6 : Int32))) 46 ((33 : Int32))) ((ot σ))) C I fX12_258_X12p eX12_slh_221 (hN 49 (by decide)) rfl rfl rfl (Nat.le_of_ble_eq_true rfl) rfl ?_
  refine v_aload_n C eX12_slh_224 rfl 0 rfl ?_
  refine v_iconst (v := (2 : Int32)) C eX12_slh_225 (by decide) ?_
  refine v_aload_n C eX12_slh_226 rfl 0 rfl ?_
  refine n_get C I fX12_243_X12 eX12_slh_227 (hN 49 (by decide)) rfl rfl ?_
  refine v_imul C eX12_slh_230 ?_
  refine v_iconst (v := (3 : Int32)) C eX12_slh_231 (by decide) ?_
  refine v_iadd C eX12_slh_232 ?_
  refine n_put (fs' := mO ad (upd (upd (upd (upd (upd (upd (upd ((ox σ)) 41 ((16 : Int32))) 42 ((66 : Int32))) 43 ((22 : Int32))) 44 (((66 : Int32)) / ((22 : Int32)))) 45 ((6 : Int32))) 46 ((33 : Int32))) 47 ((((2 : Int32)) * ((16 : Int32))) + ((3 : Int32)))) ((ot σ))) C I fX12_261_X12p eX12_slh_233 (hN 49 (by decide)) rfl rfl rfl (Nat.le_of_ble_eq_true rfl) rfl ?_
  refine v_aload_n C eX12_slh_236 rfl 0 rfl ?_
  refine v_iload_n C eX12_slh_237 rfl 1 rfl ?_
  refine v_bipush (v := (6 : Int32)) C eX12_slh_238 (by decide) ?_
  refine v_icmp_ge (tgt := 247) C eX12_slh_240 (by decide) (fun _ => ?_) (fun h => absurd (ix_le (a := 6) (b := 7) (rfl : (6 : Int32) = nI 6) (rfl : nI 7 = nI 7) (by omega) (by omega) (by omega)) h)
  refine v_iconst (v := (0 : Int32)) C eX12_slh_247 (by decide) ?_
  refine n_put (fs' := mO ad (upd (upd (upd (upd (upd (upd (upd (upd ((ox σ)) 41 ((16 : Int32))) 42 ((66 : Int32))) 43 ((22 : Int32))) 44 (((66 : Int32)) / ((22 : Int32)))) 45 ((6 : Int32))) 46 ((33 : Int32))) 47 ((((2 : Int32)) * ((16 : Int32))) + ((3 : Int32)))) 48 ((0 : Int32))) ((ot σ))) C I fX12_264_X12p eX12_slh_248 (hN 49 (by decide)) rfl rfl rfl (Nat.le_of_ble_eq_true rfl) rfl ?_
  refine v_eq (w' := nW ad N (va_up σ 49 (eO 9 (mO ad (upd (upd (upd (upd (upd (upd (upd (upd ((ox σ)) 41 ((16 : Int32))) 42 ((66 : Int32))) 43 ((22 : Int32))) 44 (((66 : Int32)) / ((22 : Int32)))) 45 ((6 : Int32))) 46 ((33 : Int32))) 47 ((((2 : Int32)) * ((16 : Int32))) + ((3 : Int32)))) 48 ((0 : Int32))) ((ot σ)))))) (congrArg (nW ad N) (n_extL [49] ⟨rfl, trivial⟩ (fun q h => by simp only [List.mem_cons, List.not_mem_nil, or_false, not_or] at h; simp [va_up, h]))) rfl rfl ?_
  refine v_pic (fun ρ hρ => ?_)
  have hC1 : RS G ad θ (xS x 7) ρ := by
    rw [hρ]; exact hC.upO ⟨hC.i3, hC.i4, (show ((16 : Int32) : Int32) = nI 16 by decide), (show ((66 : Int32) : Int32) = nI 66 by decide), (show ((22 : Int32) : Int32) = nI 22 by decide), (show (((66 : Int32)) / ((22 : Int32)) : Int32) = nI 3 by decide), (show ((6 : Int32) : Int32) = nI 6 by decide), (show ((33 : Int32) : Int32) = nI 33 by decide), (show ((((2 : Int32)) * ((16 : Int32))) + ((3 : Int32)) : Int32) = nI 35 by decide), (show ((0 : Int32) : Int32) = 0 by decide)⟩
  have hk1 : ∀ k, ¬ (k = 28 ∨ k = 49) → ρ k = σ k := fun k hk => by rw [hρ]; exact n_ne (by omega)
  refine v_iconst (v := nI 0) C eX12_slh_251 (by decide) ?_
  refine v_istore_n (lv' := [(0, .ref (ad 49)), (1, .int (nI 7)), (2, .int t1), (3, .int (nI 0))]) C eX12_slh_252 rfl (by decide) [1, 2, 3, 0] rfl ?_
  refine v_pick (lv' := [(0, .ref (ad 49)), (1, .int (nI 7)), (3, .int (nI 0))]) [0, 1, 3] rfl ?_
  refine v_forP (fun j τ => RS G ad θ (xS x 7) τ ∧ (∀ k, ¬ (k = 28 ∨ k = 49) → τ k = σ k)) (fun j => [(0, .ref (ad 49)), (1, .int (nI 7)), (3, .int (nI j))]) 32 ?_ ?_ _ ⟨hC1, hk1⟩
  · intro τ hI
    obtain ⟨hC2, hk2⟩ := hI
    refine v_iload_n C eX12_slh_253 rfl 2 rfl ?_
    refine v_bipush (v := (32 : Int32)) C eX12_slh_254 (by decide) ?_
    refine v_icmp_ge (tgt := 272) C eX12_slh_256 (by decide) (fun _ => ?_) (fun h => absurd (ix_le (a := 32) (b := 32) (rfl : (32 : Int32) = nI 32) (rfl : nI 32 = nI 32) (by omega) (by omega) (by omega)) h)
    exact n_vret C rfl eX12_slh_272 ⟨rfl, hC2, hk2⟩
  · intro j hj ih τ hI
    obtain ⟨hC2, hk2⟩ := hI
    refine v_iload_n C eX12_slh_253 rfl 2 rfl ?_
    refine v_bipush (v := (32 : Int32)) C eX12_slh_254 (by decide) ?_
    refine v_icmp_ge (tgt := 272) C eX12_slh_256 (by decide) (fun h => absurd h (ix_nle (a := 32) (b := j) (rfl : (32 : Int32) = nI 32) (rfl : nI j = nI j) (by omega) (by omega) (by omega))) (fun _ => ?_)
    refine v_aload_n C eX12_slh_259 rfl 0 rfl ?_
    refine n_get C I fX12_81_X12 eX12_slh_260 (hN 49 (by decide)) hC2.obj rfl ?_
    refine v_iload_n C eX12_slh_263 rfl 2 rfl ?_
    refine v_iconst (v := (0 : Int32)) C eX12_slh_264 (by decide) ?_
    refine n_bast C I eX12_slh_265 (hN 28 (by decide)) (hC2.b 28 32 rfl (by decide)) j (rfl : nI j = nI j) (by omega) (by decide) ?_
    refine v_iinc (lv' := [(0, .ref (ad 49)), (1, .int (nI 7)), (3, .int (nI (j + 1)))]) C eX12_slh_266 2 rfl (ix_inc _) (by decide) [1, 2, 0] rfl ?_
    refine v_goto (tgt := 253) C eX12_slh_269 (by decide) ?_
    exact ih _ ⟨hC2.up rfl (by decide) _, fun k hk => (n_ne (by omega)).trans (hk2 k hk)⟩

set_option maxRecDepth 100000 in
set_option maxHeartbeats 4000000 in
theorem rs_slh8 (I : nI1 ad N) (hN : ∀ k, k < 74 → k < N) (hC : RS G ad θ x σ) : nOk G B l ad N yX12_slh cX12_slh 4 none 0 0 0 [.ref (ad 49), .int (nI 8)] σ (fun r σ' => r = none ∧ RS G ad θ (xS x 8) σ' ∧ (∀ k, ¬ (k = 28 ∨ k = 49) → σ' k = σ k)) := by
  refine vOk.of (by decide +kernel) (Nat.le_of_ble_eq_true rfl) ?_
  intro p e s m args below meth c C
  refine v_eq (lv' := [(0, .ref (ad 49)), (1, .int (nI 8))]) rfl rfl rfl ?_
  refine v_iload_n C eX12_slh_0 rfl 1 rfl ?_
  refine v_bipush (v := (6 : Int32)) C eX12_slh_1 (by decide) ?_
  refine v_irem C eX12_slh_3 (by decide) ?_
  refine v_topi (fun t1 ht1 => ?_)
  refine v_istore_n (lv' := [(0, .ref (ad 49)), (1, .int (nI 8)), (2, .int t1)]) C eX12_slh_4 rfl (by decide) [1, 2, 0] rfl ?_
  refine v_aload_n C eX12_slh_5 rfl 0 rfl ?_
  refine v_iload_n C eX12_slh_6 rfl 2 rfl ?_
  refine v_iconst (v := (2 : Int32)) C eX12_slh_7 (by decide) ?_
  refine v_icmp_ge (tgt := 16) C eX12_slh_8 (by decide) (fun _ => ?_) (fun h => absurd (ix_le (a := 2) (b := 8 % 6) (rfl : (2 : Int32) = nI 2) (ht1.trans (ix_rem (a := 8) (d := 6) (rfl : nI 8 = nI 8) (rfl : (6 : Int32) = nI 6) (by omega) (by omega) (by omega))) (by omega) (by omega) (by omega)) h)
  refine v_iload_n C eX12_slh_16 rfl 2 rfl ?_
  refine v_iconst (v := (4 : Int32)) C eX12_slh_17 (by decide) ?_
  refine v_icmp_ge (tgt := 26) C eX12_slh_18 (by decide) (fun h => absurd h (ix_nle (a := 4) (b := 8 % 6) (rfl : (4 : Int32) = nI 4) (ht1.trans (ix_rem (a := 8) (d := 6) (rfl : nI 8 = nI 8) (rfl : (6 : Int32) = nI 6) (by omega) (by omega) (by omega))) (by omega) (by omega) (by omega))) (fun _ => ?_)
  refine v_bipush (v := (24 : Int32)) C eX12_slh_21 (by decide) ?_
  refine v_goto (tgt := 28) C eX12_slh_23 (by decide) ?_
  refine n_put (fs' := mO ad (upd ((ox σ)) 41 ((24 : Int32))) ((ot σ))) C I fX12_243_X12p eX12_slh_28 (hN 49 (by decide)) hC.obj rfl rfl (Nat.le_of_ble_eq_true rfl) rfl ?_
  refine v_aload_n C eX12_slh_31 rfl 0 rfl ?_
  refine v_iload_n C eX12_slh_32 rfl 2 rfl ?_
  refine v_if_eq (tgt := 41) C eX12_slh_33 (by decide) (fun h => absurd h (ix_ne (a := 8 % 6) (b := 0) (ht1.trans (ix_rem (a := 8) (d := 6) (rfl : nI 8 = nI 8) (rfl : (6 : Int32) = nI 6) (by omega) (by omega) (by omega))) (rfl : (0 : Int32) = nI 0) (by omega) (by omega) (by omega))) (fun _ => ?_)
  refine v_iload_n C eX12_slh_36 rfl 2 rfl ?_
  refine v_iconst (v := (2 : Int32)) C eX12_slh_37 (by decide) ?_
  refine v_icmp_ne (tgt := 46) C eX12_slh_38 (by decide) (fun h => absurd (ix_eq (a := 8 % 6) (b := 2) (ht1.trans (ix_rem (a := 8) (d := 6) (rfl : nI 8 = nI 8) (rfl : (6 : Int32) = nI 6) (by omega) (by omega) (by omega))) (rfl : (2 : Int32) = nI 2) (by omega) (by omega) (by omega)) h) (fun _ => ?_)
  refine v_bipush (v := (63 : Int32)) C eX12_slh_41 (by decide) ?_
  refine v_goto (tgt := 68) C eX12_slh_43 (by decide) ?_
  refine n_put (fs' := mO ad (upd (upd ((ox σ)) 41 ((24 : Int32))) 42 ((63 : Int32))) ((ot σ))) C I fX12_246_X12p eX12_slh_68 (hN 49 (by decide)) rfl rfl rfl (Nat.le_of_ble_eq_true rfl) rfl ?_
  refine v_aload_n C eX12_slh_71 rfl 0 rfl ?_
  refine v_iload_n C eX12_slh_72 rfl 2 rfl ?_
  refine v_if_eq (tgt := 81) C eX12_slh_73 (by decide) (fun h => absurd h (ix_ne (a := 8 % 6) (b := 0) (ht1.trans (ix_rem (a := 8) (d := 6) (rfl : nI 8 = nI 8) (rfl : (6 : Int32) = nI 6) (by omega) (by omega) (by omega))) (rfl : (0 : Int32) = nI 0) (by omega) (by omega) (by omega))) (fun _ => ?_)
  refine v_iload_n C eX12_slh_76 rfl 2 rfl ?_
  refine v_iconst (v := (2 : Int32)) C eX12_slh_77 (by decide) ?_
  refine v_icmp_ne (tgt := 86) C eX12_slh_78 (by decide) (fun h => absurd (ix_eq (a := 8 % 6) (b := 2) (ht1.trans (ix_rem (a := 8) (d := 6) (rfl : nI 8 = nI 8) (rfl : (6 : Int32) = nI 6) (by omega) (by omega) (by omega))) (rfl : (2 : Int32) = nI 2) (by omega) (by omega) (by omega)) h) (fun _ => ?_)
  refine v_bipush (v := (7 : Int32)) C eX12_slh_81 (by decide) ?_
  refine v_goto (tgt := 108) C eX12_slh_83 (by decide) ?_
  refine n_put (fs' := mO ad (upd (upd (upd ((ox σ)) 41 ((24 : Int32))) 42 ((63 : Int32))) 43 ((7 : Int32))) ((ot σ))) C I fX12_249_X12p eX12_slh_108 (hN 49 (by decide)) rfl rfl rfl (Nat.le_of_ble_eq_true rfl) rfl ?_
  refine v_aload_n C eX12_slh_111 rfl 0 rfl ?_
  refine v_iload_n C eX12_slh_112 rfl 2 rfl ?_
  refine v_if_ne (tgt := 121) C eX12_slh_113 (by decide) (fun _ => ?_) (fun h => absurd h (ix_ne (a := 8 % 6) (b := 0) (ht1.trans (ix_rem (a := 8) (d := 6) (rfl : nI 8 = nI 8) (rfl : (6 : Int32) = nI 6) (by omega) (by omega) (by omega))) (rfl : (0 : Int32) = nI 0) (by omega) (by omega) (by omega)))
  refine v_iload_n C eX12_slh_121 rfl 2 rfl ?_
  refine v_iconst (v := (1 : Int32)) C eX12_slh_122 (by decide) ?_
  refine v_icmp_ne (tgt := 131) C eX12_slh_123 (by decide) (fun _ => ?_) (fun h => absurd h (ix_ne (a := 8 % 6) (b := 1) (ht1.trans (ix_rem (a := 8) (d := 6) (rfl : nI 8 = nI 8) (rfl : (6 : Int32) = nI 6) (by omega) (by omega) (by omega))) (rfl : (1 : Int32) = nI 1) (by omega) (by omega) (by omega)))
  refine v_iload_n C eX12_slh_131 rfl 2 rfl ?_
  refine v_iconst (v := (2 : Int32)) C eX12_slh_132 (by decide) ?_
  refine v_icmp_eq (tgt := 141) C eX12_slh_133 (by decide) (fun _ => ?_) (fun h => absurd (ix_eq (a := 8 % 6) (b := 2) (ht1.trans (ix_rem (a := 8) (d := 6) (rfl : nI 8 = nI 8) (rfl : (6 : Int32) = nI 6) (by omega) (by omega) (by omega))) (rfl : (2 : Int32) = nI 2) (by omega) (by omega) (by omega)) h)
  refine v_bipush (v := (14 : Int32)) C eX12_slh_141 (by decide) ?_
  refine v_goto (tgt := 158) C eX12_slh_143 (by decide) ?_
  refine n_put (fs' := mO ad (upd (upd (upd (upd ((ox σ)) 41 ((24 : Int32))) 42 ((63 : Int32))) 43 ((7 : Int32))) 45 ((14 : Int32))) ((ot σ))) C I fX12_252_X12p eX12_slh_158 (hN 49 (by decide)) rfl rfl rfl (Nat.le_of_ble_eq_true rfl) rfl ?_
  refine v_aload_n C eX12_slh_161 rfl 0 rfl ?_
  refine v_iload_n C eX12_slh_162 rfl 2 rfl ?_
  refine v_if_ne (tgt := 171) C eX12_slh_163 (by decide) (fun _ => ?_) (fun h => absurd h (ix_ne (a := 8 % 6) (b := 0) (ht1.trans (ix_rem (a := 8) (d := 6) (rfl : nI 8 = nI 8) (rfl : (6 : Int32) = nI 6) (by omega) (by omega) (by omega))) (rfl : (0 : Int32) = nI 0) (by omega) (by omega) (by omega)))
  refine v_iload_n C eX12_slh_171 rfl 2 rfl ?_
  refine v_iconst (v := (1 : Int32)) C eX12_slh_172 (by decide) ?_
  refine v_icmp_eq (tgt := 181) C eX12_slh_173 (by decide) (fun h => absurd h (ix_ne (a := 8 % 6) (b := 1) (ht1.trans (ix_rem (a := 8) (d := 6) (rfl : nI 8 = nI 8) (rfl : (6 : Int32) = nI 6) (by omega) (by omega) (by omega))) (rfl : (1 : Int32) = nI 1) (by omega) (by omega) (by omega))) (fun _ => ?_)
  refine v_iload_n C eX12_slh_176 rfl 2 rfl ?_
  refine v_iconst (v := (3 : Int32)) C eX12_slh_177 (by decide) ?_
  refine v_icmp_ne (tgt := 186) C eX12_slh_178 (by decide) (fun _ => ?_) (fun h => absurd h (ix_ne (a := 8 % 6) (b := 3) (ht1.trans (ix_rem (a := 8) (d := 6) (rfl : nI 8 = nI 8) (rfl : (6 : Int32) = nI 6) (by omega) (by omega) (by omega))) (rfl : (3 : Int32) = nI 3) (by omega) (by omega) (by omega)))
  refine v_iload_n C eX12_slh_186 rfl 2 rfl ?_
  refine v_iconst (v := (2 : Int32)) C eX12_slh_187 (by decide) ?_
  refine v_icmp_ne (tgt := 196) C eX12_slh_188 (by decide) (fun h => absurd (ix_eq (a := 8 % 6) (b := 2) (ht1.trans (ix_rem (a := 8) (d := 6) (rfl : nI 8 = nI 8) (rfl : (6 : Int32) = nI 6) (by omega) (by omega) (by omega))) (rfl : (2 : Int32) = nI 2) (by omega) (by omega) (by omega)) h) (fun _ => ?_)
  refine v_bipush (v := (17 : Int32)) C eX12_slh_191 (by decide) ?_
  refine v_goto (tgt := 208) C eX12_slh_193 (by decide) ?_
  refine n_put (fs' := mO ad (upd (upd (upd (upd (upd ((ox σ)) 41 ((24 : Int32))) 42 ((63 : Int32))) 43 ((7 : Int32))) 45 ((14 : Int32))) 46 ((17 : Int32))) ((ot σ))) C I fX12_255_X12p eX12_slh_208 (hN 49 (by decide)) rfl rfl rfl (Nat.le_of_ble_eq_true rfl) rfl ?_
  refine v_aload_n C eX12_slh_211 rfl 0 rfl ?_
  refine v_aload_n C eX12_slh_212 rfl 0 rfl ?_
  refine n_get C I fX12_246_X12 eX12_slh_213 (hN 49 (by decide)) rfl rfl ?_
  refine v_aload_n C eX12_slh_216 rfl 0 rfl ?_
  refine n_get C I fX12_249_X12 eX12_slh_217 (hN 49 (by decide)) rfl rfl ?_
  refine v_idiv C eX12_slh_220 (show ¬ (7 : Int32) = 0 by decide) ?_
  refine n_put (fs' := mO ad (upd (upd (upd (upd (upd (upd ((ox σ)) 41 ((24 : Int32))) 42 ((63 : Int32))) 43 ((7 : Int32))) 44 (((63 : Int32)) / ((7 : Int32)))) 45 ((14 : Int32))) 46 ((17 : Int32))) ((ot σ))) C I fX12_258_X12p eX12_slh_221 (hN 49 (by decide)) rfl rfl rfl (Nat.le_of_ble_eq_true rfl) rfl ?_
  refine v_aload_n C eX12_slh_224 rfl 0 rfl ?_
  refine v_iconst (v := (2 : Int32)) C eX12_slh_225 (by decide) ?_
  refine v_aload_n C eX12_slh_226 rfl 0 rfl ?_
  refine n_get C I fX12_243_X12 eX12_slh_227 (hN 49 (by decide)) rfl rfl ?_
  refine v_imul C eX12_slh_230 ?_
  refine v_iconst (v := (3 : Int32)) C eX12_slh_231 (by decide) ?_
  refine v_iadd C eX12_slh_232 ?_
  refine n_put (fs' := mO ad (upd (upd (upd (upd (upd (upd (upd ((ox σ)) 41 ((24 : Int32))) 42 ((63 : Int32))) 43 ((7 : Int32))) 44 (((63 : Int32)) / ((7 : Int32)))) 45 ((14 : Int32))) 46 ((17 : Int32))) 47 ((((2 : Int32)) * ((24 : Int32))) + ((3 : Int32)))) ((ot σ))) C I fX12_261_X12p eX12_slh_233 (hN 49 (by decide)) rfl rfl rfl (Nat.le_of_ble_eq_true rfl) rfl ?_
  refine v_aload_n C eX12_slh_236 rfl 0 rfl ?_
  refine v_iload_n C eX12_slh_237 rfl 1 rfl ?_
  refine v_bipush (v := (6 : Int32)) C eX12_slh_238 (by decide) ?_
  refine v_icmp_ge (tgt := 247) C eX12_slh_240 (by decide) (fun _ => ?_) (fun h => absurd (ix_le (a := 6) (b := 8) (rfl : (6 : Int32) = nI 6) (rfl : nI 8 = nI 8) (by omega) (by omega) (by omega)) h)
  refine v_iconst (v := (0 : Int32)) C eX12_slh_247 (by decide) ?_
  refine n_put (fs' := mO ad (upd (upd (upd (upd (upd (upd (upd (upd ((ox σ)) 41 ((24 : Int32))) 42 ((63 : Int32))) 43 ((7 : Int32))) 44 (((63 : Int32)) / ((7 : Int32)))) 45 ((14 : Int32))) 46 ((17 : Int32))) 47 ((((2 : Int32)) * ((24 : Int32))) + ((3 : Int32)))) 48 ((0 : Int32))) ((ot σ))) C I fX12_264_X12p eX12_slh_248 (hN 49 (by decide)) rfl rfl rfl (Nat.le_of_ble_eq_true rfl) rfl ?_
  refine v_eq (w' := nW ad N (va_up σ 49 (eO 9 (mO ad (upd (upd (upd (upd (upd (upd (upd (upd ((ox σ)) 41 ((24 : Int32))) 42 ((63 : Int32))) 43 ((7 : Int32))) 44 (((63 : Int32)) / ((7 : Int32)))) 45 ((14 : Int32))) 46 ((17 : Int32))) 47 ((((2 : Int32)) * ((24 : Int32))) + ((3 : Int32)))) 48 ((0 : Int32))) ((ot σ)))))) (congrArg (nW ad N) (n_extL [49] ⟨rfl, trivial⟩ (fun q h => by simp only [List.mem_cons, List.not_mem_nil, or_false, not_or] at h; simp [va_up, h]))) rfl rfl ?_
  refine v_pic (fun ρ hρ => ?_)
  have hC1 : RS G ad θ (xS x 8) ρ := by
    rw [hρ]; exact hC.upO ⟨hC.i3, hC.i4, (show ((24 : Int32) : Int32) = nI 24 by decide), (show ((63 : Int32) : Int32) = nI 63 by decide), (show ((7 : Int32) : Int32) = nI 7 by decide), (show (((63 : Int32)) / ((7 : Int32)) : Int32) = nI 9 by decide), (show ((14 : Int32) : Int32) = nI 14 by decide), (show ((17 : Int32) : Int32) = nI 17 by decide), (show ((((2 : Int32)) * ((24 : Int32))) + ((3 : Int32)) : Int32) = nI 51 by decide), (show ((0 : Int32) : Int32) = 0 by decide)⟩
  have hk1 : ∀ k, ¬ (k = 28 ∨ k = 49) → ρ k = σ k := fun k hk => by rw [hρ]; exact n_ne (by omega)
  refine v_iconst (v := nI 0) C eX12_slh_251 (by decide) ?_
  refine v_istore_n (lv' := [(0, .ref (ad 49)), (1, .int (nI 8)), (2, .int t1), (3, .int (nI 0))]) C eX12_slh_252 rfl (by decide) [1, 2, 3, 0] rfl ?_
  refine v_pick (lv' := [(0, .ref (ad 49)), (1, .int (nI 8)), (3, .int (nI 0))]) [0, 1, 3] rfl ?_
  refine v_forP (fun j τ => RS G ad θ (xS x 8) τ ∧ (∀ k, ¬ (k = 28 ∨ k = 49) → τ k = σ k)) (fun j => [(0, .ref (ad 49)), (1, .int (nI 8)), (3, .int (nI j))]) 32 ?_ ?_ _ ⟨hC1, hk1⟩
  · intro τ hI
    obtain ⟨hC2, hk2⟩ := hI
    refine v_iload_n C eX12_slh_253 rfl 2 rfl ?_
    refine v_bipush (v := (32 : Int32)) C eX12_slh_254 (by decide) ?_
    refine v_icmp_ge (tgt := 272) C eX12_slh_256 (by decide) (fun _ => ?_) (fun h => absurd (ix_le (a := 32) (b := 32) (rfl : (32 : Int32) = nI 32) (rfl : nI 32 = nI 32) (by omega) (by omega) (by omega)) h)
    exact n_vret C rfl eX12_slh_272 ⟨rfl, hC2, hk2⟩
  · intro j hj ih τ hI
    obtain ⟨hC2, hk2⟩ := hI
    refine v_iload_n C eX12_slh_253 rfl 2 rfl ?_
    refine v_bipush (v := (32 : Int32)) C eX12_slh_254 (by decide) ?_
    refine v_icmp_ge (tgt := 272) C eX12_slh_256 (by decide) (fun h => absurd h (ix_nle (a := 32) (b := j) (rfl : (32 : Int32) = nI 32) (rfl : nI j = nI j) (by omega) (by omega) (by omega))) (fun _ => ?_)
    refine v_aload_n C eX12_slh_259 rfl 0 rfl ?_
    refine n_get C I fX12_81_X12 eX12_slh_260 (hN 49 (by decide)) hC2.obj rfl ?_
    refine v_iload_n C eX12_slh_263 rfl 2 rfl ?_
    refine v_iconst (v := (0 : Int32)) C eX12_slh_264 (by decide) ?_
    refine n_bast C I eX12_slh_265 (hN 28 (by decide)) (hC2.b 28 32 rfl (by decide)) j (rfl : nI j = nI j) (by omega) (by decide) ?_
    refine v_iinc (lv' := [(0, .ref (ad 49)), (1, .int (nI 8)), (3, .int (nI (j + 1)))]) C eX12_slh_266 2 rfl (ix_inc _) (by decide) [1, 2, 0] rfl ?_
    refine v_goto (tgt := 253) C eX12_slh_269 (by decide) ?_
    exact ih _ ⟨hC2.up rfl (by decide) _, fun k hk => (n_ne (by omega)).trans (hk2 k hk)⟩

set_option maxRecDepth 100000 in
set_option maxHeartbeats 4000000 in
theorem rs_slh9 (I : nI1 ad N) (hN : ∀ k, k < 74 → k < N) (hC : RS G ad θ x σ) : nOk G B l ad N yX12_slh cX12_slh 4 none 0 0 0 [.ref (ad 49), .int (nI 9)] σ (fun r σ' => r = none ∧ RS G ad θ (xS x 9) σ' ∧ (∀ k, ¬ (k = 28 ∨ k = 49) → σ' k = σ k)) := by
  refine vOk.of (by decide +kernel) (Nat.le_of_ble_eq_true rfl) ?_
  intro p e s m args below meth c C
  refine v_eq (lv' := [(0, .ref (ad 49)), (1, .int (nI 9))]) rfl rfl rfl ?_
  refine v_iload_n C eX12_slh_0 rfl 1 rfl ?_
  refine v_bipush (v := (6 : Int32)) C eX12_slh_1 (by decide) ?_
  refine v_irem C eX12_slh_3 (by decide) ?_
  refine v_topi (fun t1 ht1 => ?_)
  refine v_istore_n (lv' := [(0, .ref (ad 49)), (1, .int (nI 9)), (2, .int t1)]) C eX12_slh_4 rfl (by decide) [1, 2, 0] rfl ?_
  refine v_aload_n C eX12_slh_5 rfl 0 rfl ?_
  refine v_iload_n C eX12_slh_6 rfl 2 rfl ?_
  refine v_iconst (v := (2 : Int32)) C eX12_slh_7 (by decide) ?_
  refine v_icmp_ge (tgt := 16) C eX12_slh_8 (by decide) (fun _ => ?_) (fun h => absurd (ix_le (a := 2) (b := 9 % 6) (rfl : (2 : Int32) = nI 2) (ht1.trans (ix_rem (a := 9) (d := 6) (rfl : nI 9 = nI 9) (rfl : (6 : Int32) = nI 6) (by omega) (by omega) (by omega))) (by omega) (by omega) (by omega)) h)
  refine v_iload_n C eX12_slh_16 rfl 2 rfl ?_
  refine v_iconst (v := (4 : Int32)) C eX12_slh_17 (by decide) ?_
  refine v_icmp_ge (tgt := 26) C eX12_slh_18 (by decide) (fun h => absurd h (ix_nle (a := 4) (b := 9 % 6) (rfl : (4 : Int32) = nI 4) (ht1.trans (ix_rem (a := 9) (d := 6) (rfl : nI 9 = nI 9) (rfl : (6 : Int32) = nI 6) (by omega) (by omega) (by omega))) (by omega) (by omega) (by omega))) (fun _ => ?_)
  refine v_bipush (v := (24 : Int32)) C eX12_slh_21 (by decide) ?_
  refine v_goto (tgt := 28) C eX12_slh_23 (by decide) ?_
  refine n_put (fs' := mO ad (upd ((ox σ)) 41 ((24 : Int32))) ((ot σ))) C I fX12_243_X12p eX12_slh_28 (hN 49 (by decide)) hC.obj rfl rfl (Nat.le_of_ble_eq_true rfl) rfl ?_
  refine v_aload_n C eX12_slh_31 rfl 0 rfl ?_
  refine v_iload_n C eX12_slh_32 rfl 2 rfl ?_
  refine v_if_eq (tgt := 41) C eX12_slh_33 (by decide) (fun h => absurd h (ix_ne (a := 9 % 6) (b := 0) (ht1.trans (ix_rem (a := 9) (d := 6) (rfl : nI 9 = nI 9) (rfl : (6 : Int32) = nI 6) (by omega) (by omega) (by omega))) (rfl : (0 : Int32) = nI 0) (by omega) (by omega) (by omega))) (fun _ => ?_)
  refine v_iload_n C eX12_slh_36 rfl 2 rfl ?_
  refine v_iconst (v := (2 : Int32)) C eX12_slh_37 (by decide) ?_
  refine v_icmp_ne (tgt := 46) C eX12_slh_38 (by decide) (fun _ => ?_) (fun h => absurd h (ix_ne (a := 9 % 6) (b := 2) (ht1.trans (ix_rem (a := 9) (d := 6) (rfl : nI 9 = nI 9) (rfl : (6 : Int32) = nI 6) (by omega) (by omega) (by omega))) (rfl : (2 : Int32) = nI 2) (by omega) (by omega) (by omega)))
  refine v_iload_n C eX12_slh_46 rfl 2 rfl ?_
  refine v_iconst (v := (4 : Int32)) C eX12_slh_47 (by decide) ?_
  refine v_icmp_ne (tgt := 56) C eX12_slh_48 (by decide) (fun _ => ?_) (fun h => absurd h (ix_ne (a := 9 % 6) (b := 4) (ht1.trans (ix_rem (a := 9) (d := 6) (rfl : nI 9 = nI 9) (rfl : (6 : Int32) = nI 6) (by omega) (by omega) (by omega))) (rfl : (4 : Int32) = nI 4) (by omega) (by omega) (by omega)))
  refine v_iload_n C eX12_slh_56 rfl 2 rfl ?_
  refine v_iconst (v := (5 : Int32)) C eX12_slh_57 (by decide) ?_
  refine v_icmp_ne (tgt := 66) C eX12_slh_58 (by decide) (fun _ => ?_) (fun h => absurd h (ix_ne (a := 9 % 6) (b := 5) (ht1.trans (ix_rem (a := 9) (d := 6) (rfl : nI 9 = nI 9) (rfl : (6 : Int32) = nI 6) (by omega) (by omega) (by omega))) (rfl : (5 : Int32) = nI 5) (by omega) (by omega) (by omega)))
  refine v_bipush (v := (66 : Int32)) C eX12_slh_66 (by decide) ?_
  refine n_put (fs' := mO ad (upd (upd ((ox σ)) 41 ((24 : Int32))) 42 ((66 : Int32))) ((ot σ))) C I fX12_246_X12p eX12_slh_68 (hN 49 (by decide)) rfl rfl rfl (Nat.le_of_ble_eq_true rfl) rfl ?_
  refine v_aload_n C eX12_slh_71 rfl 0 rfl ?_
  refine v_iload_n C eX12_slh_72 rfl 2 rfl ?_
  refine v_if_eq (tgt := 81) C eX12_slh_73 (by decide) (fun h => absurd h (ix_ne (a := 9 % 6) (b := 0) (ht1.trans (ix_rem (a := 9) (d := 6) (rfl : nI 9 = nI 9) (rfl : (6 : Int32) = nI 6) (by omega) (by omega) (by omega))) (rfl : (0 : Int32) = nI 0) (by omega) (by omega) (by omega))) (fun _ => ?_)
  refine v_iload_n C eX12_slh_76 rfl 2 rfl ?_
  refine v_iconst (v := (2 : Int32)) C eX12_slh_77 (by decide) ?_
  refine v_icmp_ne (tgt := 86) C eX12_slh_78 (by decide) (fun _ => ?_) (fun h => absurd h (ix_ne (a := 9 % 6) (b := 2) (ht1.trans (ix_rem (a := 9) (d := 6) (rfl : nI 9 = nI 9) (rfl : (6 : Int32) = nI 6) (by omega) (by omega) (by omega))) (rfl : (2 : Int32) = nI 2) (by omega) (by omega) (by omega)))
  refine v_iload_n C eX12_slh_86 rfl 2 rfl ?_
  refine v_iconst (v := (4 : Int32)) C eX12_slh_87 (by decide) ?_
  refine v_icmp_ne (tgt := 96) C eX12_slh_88 (by decide) (fun _ => ?_) (fun h => absurd h (ix_ne (a := 9 % 6) (b := 4) (ht1.trans (ix_rem (a := 9) (d := 6) (rfl : nI 9 = nI 9) (rfl : (6 : Int32) = nI 6) (by omega) (by omega) (by omega))) (rfl : (4 : Int32) = nI 4) (by omega) (by omega) (by omega)))
  refine v_iload_n C eX12_slh_96 rfl 2 rfl ?_
  refine v_iconst (v := (5 : Int32)) C eX12_slh_97 (by decide) ?_
  refine v_icmp_ne (tgt := 106) C eX12_slh_98 (by decide) (fun _ => ?_) (fun h => absurd h (ix_ne (a := 9 % 6) (b := 5) (ht1.trans (ix_rem (a := 9) (d := 6) (rfl : nI 9 = nI 9) (rfl : (6 : Int32) = nI 6) (by omega) (by omega) (by omega))) (rfl : (5 : Int32) = nI 5) (by omega) (by omega) (by omega)))
  refine v_bipush (v := (22 : Int32)) C eX12_slh_106 (by decide) ?_
  refine n_put (fs' := mO ad (upd (upd (upd ((ox σ)) 41 ((24 : Int32))) 42 ((66 : Int32))) 43 ((22 : Int32))) ((ot σ))) C I fX12_249_X12p eX12_slh_108 (hN 49 (by decide)) rfl rfl rfl (Nat.le_of_ble_eq_true rfl) rfl ?_
  refine v_aload_n C eX12_slh_111 rfl 0 rfl ?_
  refine v_iload_n C eX12_slh_112 rfl 2 rfl ?_
  refine v_if_ne (tgt := 121) C eX12_slh_113 (by decide) (fun _ => ?_) (fun h => absurd h (ix_ne (a := 9 % 6) (b := 0) (ht1.trans (ix_rem (a := 9) (d := 6) (rfl : nI 9 = nI 9) (rfl : (6 : Int32) = nI 6) (by omega) (by omega) (by omega))) (rfl : (0 : Int32) = nI 0) (by omega) (by omega) (by omega)))
  refine v_iload_n C eX12_slh_121 rfl 2 rfl ?_
  refine v_iconst (v := (1 : Int32)) C eX12_slh_122 (by decide) ?_
  refine v_icmp_ne (tgt := 131) C eX12_slh_123 (by decide) (fun _ => ?_) (fun h => absurd h (ix_ne (a := 9 % 6) (b := 1) (ht1.trans (ix_rem (a := 9) (d := 6) (rfl : nI 9 = nI 9) (rfl : (6 : Int32) = nI 6) (by omega) (by omega) (by omega))) (rfl : (1 : Int32) = nI 1) (by omega) (by omega) (by omega)))
  refine v_iload_n C eX12_slh_131 rfl 2 rfl ?_
  refine v_iconst (v := (2 : Int32)) C eX12_slh_132 (by decide) ?_
  refine v_icmp_eq (tgt := 141) C eX12_slh_133 (by decide) (fun h => absurd h (ix_ne (a := 9 % 6) (b := 2) (ht1.trans (ix_rem (a := 9) (d := 6) (rfl : nI 9 = nI 9) (rfl : (6 : Int32) = nI 6) (by omega) (by omega) (by omega))) (rfl : (2 : Int32) = nI 2) (by omega) (by omega) (by omega))) (fun _ => ?_)
  refine v_iload_n C eX12_slh_136 rfl 2 rfl ?_
  refine v_iconst (v := (4 : Int32)) C eX12_slh_137 (by decide) ?_
  refine v_icmp_ne (tgt := 146) C eX12_slh_138 (by decide) (fun _ => ?_) (fun h => absurd h (ix_ne (a := 9 % 6) (b := 4) (ht1.trans (ix_rem (a := 9) (d := 6) (rfl : nI 9 = nI 9) (rfl : (6 : Int32) = nI 6) (by omega) (by omega) (by omega))) (rfl : (4 : Int32) = nI 4) (by omega) (by omega) (by omega)))
  refine v_iload_n C eX12_slh_146 rfl 2 rfl ?_
  refine v_iconst (v := (3 : Int32)) C eX12_slh_147 (by decide) ?_
  refine v_icmp_ne (tgt := 156) C eX12_slh_148 (by decide) (fun h => absurd (ix_eq (a := 9 % 6) (b := 3) (ht1.trans (ix_rem (a := 9) (d := 6) (rfl : nI 9 = nI 9) (rfl : (6 : Int32) = nI 6) (by omega) (by omega) (by omega))) (rfl : (3 : Int32) = nI 3) (by omega) (by omega) (by omega)) h) (fun _ => ?_)
  refine v_bipush (v := (8 : Int32)) C eX12_slh_151 (by decide) ?_
  refine v_goto (tgt := 158) C eX12_slh_153 (by decide) ?_
  refine n_put (fs' := mO ad (upd (upd (upd (upd ((ox σ)) 41 ((24 : Int32))) 42 ((66 : Int32))) 43 ((22 : Int32))) 45 ((8 : Int32))) ((ot σ))) C I fX12_252_X12p eX12_slh_158 (hN 49 (by decide)) rfl rfl rfl (Nat.le_of_ble_eq_true rfl) rfl ?_
  refine v_aload_n C eX12_slh_161 rfl 0 rfl ?_
  refine v_iload_n C eX12_slh_162 rfl 2 rfl ?_
  refine v_if_ne (tgt := 171) C eX12_slh_163 (by decide) (fun _ => ?_) (fun h => absurd h (ix_ne (a := 9 % 6) (b := 0) (ht1.trans (ix_rem (a := 9) (d := 6) (rfl : nI 9 = nI 9) (rfl : (6 : Int32) = nI 6) (by omega) (by omega) (by omega))) (rfl : (0 : Int32) = nI 0) (by omega) (by omega) (by omega)))
  refine v_iload_n C eX12_slh_171 rfl 2 rfl ?_
  refine v_iconst (v := (1 : Int32)) C eX12_slh_172 (by decide) ?_
  refine v_icmp_eq (tgt := 181) C eX12_slh_173 (by decide) (fun h => absurd h (ix_ne (a := 9 % 6) (b := 1) (ht1.trans (ix_rem (a := 9) (d := 6) (rfl : nI 9 = nI 9) (rfl : (6 : Int32) = nI 6) (by omega) (by omega) (by omega))) (rfl : (1 : Int32) = nI 1) (by omega) (by omega) (by omega))) (fun _ => ?_)
  refine v_iload_n C eX12_slh_176 rfl 2 rfl ?_
  refine v_iconst (v := (3 : Int32)) C eX12_slh_177 (by decide) ?_
  refine v_icmp_ne (tgt := 186) C eX12_slh_178 (by decide) (fun h => absurd (ix_eq (a := 9 % 6) (b := 3) (ht1.trans (ix_rem (a := 9) (d := 6) (rfl : nI 9 = nI 9) (rfl : (6 : Int32) = nI 6) (by omega) (by omega) (by omega))) (rfl : (3 : Int32) = nI 3) (by omega) (by omega) (by omega)) h) (fun _ => ?_)
  refine v_bipush (v := (33 : Int32)) C eX12_slh_181 (by decide) ?_
  refine v_goto (tgt := 208) C eX12_slh_183 (by decide) ?_
  refine n_put (fs' := mO ad (upd (upd (upd (upd (upd ((ox σ)) 41 ((24 : Int32))) 42 ((66 : Int32))) 43 ((22 : Int32))) 45 ((8 : Int32))) 46 ((33 : Int32))) ((ot σ))) C I fX12_255_X12p eX12_slh_208 (hN 49 (by decide)) rfl rfl rfl (Nat.le_of_ble_eq_true rfl) rfl ?_
  refine v_aload_n C eX12_slh_211 rfl 0 rfl ?_
  refine v_aload_n C eX12_slh_212 rfl 0 rfl ?_
  refine n_get C I fX12_246_X12 eX12_slh_213 (hN 49 (by decide)) rfl rfl ?_
  refine v_aload_n C eX12_slh_216 rfl 0 rfl ?_
  refine n_get C I fX12_249_X12 eX12_slh_217 (hN 49 (by decide)) rfl rfl ?_
  refine v_idiv C eX12_slh_220 (show ¬ (22 : Int32) = 0 by decide) ?_
  refine n_put (fs' := mO ad (upd (upd (upd (upd (upd (upd ((ox σ)) 41 ((24 : Int32))) 42 ((66 : Int32))) 43 ((22 : Int32))) 44 (((66 : Int32)) / ((22 : Int32)))) 45 ((8 : Int32))) 46 ((33 : Int32))) ((ot σ))) C I fX12_258_X12p eX12_slh_221 (hN 49 (by decide)) rfl rfl rfl (Nat.le_of_ble_eq_true rfl) rfl ?_
  refine v_aload_n C eX12_slh_224 rfl 0 rfl ?_
  refine v_iconst (v := (2 : Int32)) C eX12_slh_225 (by decide) ?_
  refine v_aload_n C eX12_slh_226 rfl 0 rfl ?_
  refine n_get C I fX12_243_X12 eX12_slh_227 (hN 49 (by decide)) rfl rfl ?_
  refine v_imul C eX12_slh_230 ?_
  refine v_iconst (v := (3 : Int32)) C eX12_slh_231 (by decide) ?_
  refine v_iadd C eX12_slh_232 ?_
  refine n_put (fs' := mO ad (upd (upd (upd (upd (upd (upd (upd ((ox σ)) 41 ((24 : Int32))) 42 ((66 : Int32))) 43 ((22 : Int32))) 44 (((66 : Int32)) / ((22 : Int32)))) 45 ((8 : Int32))) 46 ((33 : Int32))) 47 ((((2 : Int32)) * ((24 : Int32))) + ((3 : Int32)))) ((ot σ))) C I fX12_261_X12p eX12_slh_233 (hN 49 (by decide)) rfl rfl rfl (Nat.le_of_ble_eq_true rfl) rfl ?_
  refine v_aload_n C eX12_slh_236 rfl 0 rfl ?_
  refine v_iload_n C eX12_slh_237 rfl 1 rfl ?_
  refine v_bipush (v := (6 : Int32)) C eX12_slh_238 (by decide) ?_
  refine v_icmp_ge (tgt := 247) C eX12_slh_240 (by decide) (fun _ => ?_) (fun h => absurd (ix_le (a := 6) (b := 9) (rfl : (6 : Int32) = nI 6) (rfl : nI 9 = nI 9) (by omega) (by omega) (by omega)) h)
  refine v_iconst (v := (0 : Int32)) C eX12_slh_247 (by decide) ?_
  refine n_put (fs' := mO ad (upd (upd (upd (upd (upd (upd (upd (upd ((ox σ)) 41 ((24 : Int32))) 42 ((66 : Int32))) 43 ((22 : Int32))) 44 (((66 : Int32)) / ((22 : Int32)))) 45 ((8 : Int32))) 46 ((33 : Int32))) 47 ((((2 : Int32)) * ((24 : Int32))) + ((3 : Int32)))) 48 ((0 : Int32))) ((ot σ))) C I fX12_264_X12p eX12_slh_248 (hN 49 (by decide)) rfl rfl rfl (Nat.le_of_ble_eq_true rfl) rfl ?_
  refine v_eq (w' := nW ad N (va_up σ 49 (eO 9 (mO ad (upd (upd (upd (upd (upd (upd (upd (upd ((ox σ)) 41 ((24 : Int32))) 42 ((66 : Int32))) 43 ((22 : Int32))) 44 (((66 : Int32)) / ((22 : Int32)))) 45 ((8 : Int32))) 46 ((33 : Int32))) 47 ((((2 : Int32)) * ((24 : Int32))) + ((3 : Int32)))) 48 ((0 : Int32))) ((ot σ)))))) (congrArg (nW ad N) (n_extL [49] ⟨rfl, trivial⟩ (fun q h => by simp only [List.mem_cons, List.not_mem_nil, or_false, not_or] at h; simp [va_up, h]))) rfl rfl ?_
  refine v_pic (fun ρ hρ => ?_)
  have hC1 : RS G ad θ (xS x 9) ρ := by
    rw [hρ]; exact hC.upO ⟨hC.i3, hC.i4, (show ((24 : Int32) : Int32) = nI 24 by decide), (show ((66 : Int32) : Int32) = nI 66 by decide), (show ((22 : Int32) : Int32) = nI 22 by decide), (show (((66 : Int32)) / ((22 : Int32)) : Int32) = nI 3 by decide), (show ((8 : Int32) : Int32) = nI 8 by decide), (show ((33 : Int32) : Int32) = nI 33 by decide), (show ((((2 : Int32)) * ((24 : Int32))) + ((3 : Int32)) : Int32) = nI 51 by decide), (show ((0 : Int32) : Int32) = 0 by decide)⟩
  have hk1 : ∀ k, ¬ (k = 28 ∨ k = 49) → ρ k = σ k := fun k hk => by rw [hρ]; exact n_ne (by omega)
  refine v_iconst (v := nI 0) C eX12_slh_251 (by decide) ?_
  refine v_istore_n (lv' := [(0, .ref (ad 49)), (1, .int (nI 9)), (2, .int t1), (3, .int (nI 0))]) C eX12_slh_252 rfl (by decide) [1, 2, 3, 0] rfl ?_
  refine v_pick (lv' := [(0, .ref (ad 49)), (1, .int (nI 9)), (3, .int (nI 0))]) [0, 1, 3] rfl ?_
  refine v_forP (fun j τ => RS G ad θ (xS x 9) τ ∧ (∀ k, ¬ (k = 28 ∨ k = 49) → τ k = σ k)) (fun j => [(0, .ref (ad 49)), (1, .int (nI 9)), (3, .int (nI j))]) 32 ?_ ?_ _ ⟨hC1, hk1⟩
  · intro τ hI
    obtain ⟨hC2, hk2⟩ := hI
    refine v_iload_n C eX12_slh_253 rfl 2 rfl ?_
    refine v_bipush (v := (32 : Int32)) C eX12_slh_254 (by decide) ?_
    refine v_icmp_ge (tgt := 272) C eX12_slh_256 (by decide) (fun _ => ?_) (fun h => absurd (ix_le (a := 32) (b := 32) (rfl : (32 : Int32) = nI 32) (rfl : nI 32 = nI 32) (by omega) (by omega) (by omega)) h)
    exact n_vret C rfl eX12_slh_272 ⟨rfl, hC2, hk2⟩
  · intro j hj ih τ hI
    obtain ⟨hC2, hk2⟩ := hI
    refine v_iload_n C eX12_slh_253 rfl 2 rfl ?_
    refine v_bipush (v := (32 : Int32)) C eX12_slh_254 (by decide) ?_
    refine v_icmp_ge (tgt := 272) C eX12_slh_256 (by decide) (fun h => absurd h (ix_nle (a := 32) (b := j) (rfl : (32 : Int32) = nI 32) (rfl : nI j = nI j) (by omega) (by omega) (by omega))) (fun _ => ?_)
    refine v_aload_n C eX12_slh_259 rfl 0 rfl ?_
    refine n_get C I fX12_81_X12 eX12_slh_260 (hN 49 (by decide)) hC2.obj rfl ?_
    refine v_iload_n C eX12_slh_263 rfl 2 rfl ?_
    refine v_iconst (v := (0 : Int32)) C eX12_slh_264 (by decide) ?_
    refine n_bast C I eX12_slh_265 (hN 28 (by decide)) (hC2.b 28 32 rfl (by decide)) j (rfl : nI j = nI j) (by omega) (by decide) ?_
    refine v_iinc (lv' := [(0, .ref (ad 49)), (1, .int (nI 9)), (3, .int (nI (j + 1)))]) C eX12_slh_266 2 rfl (ix_inc _) (by decide) [1, 2, 0] rfl ?_
    refine v_goto (tgt := 253) C eX12_slh_269 (by decide) ?_
    exact ih _ ⟨hC2.up rfl (by decide) _, fun k hk => (n_ne (by omega)).trans (hk2 k hk)⟩

set_option maxRecDepth 100000 in
set_option maxHeartbeats 4000000 in
theorem rs_slh10 (I : nI1 ad N) (hN : ∀ k, k < 74 → k < N) (hC : RS G ad θ x σ) : nOk G B l ad N yX12_slh cX12_slh 4 none 0 0 0 [.ref (ad 49), .int (nI 10)] σ (fun r σ' => r = none ∧ RS G ad θ (xS x 10) σ' ∧ (∀ k, ¬ (k = 28 ∨ k = 49) → σ' k = σ k)) := by
  refine vOk.of (by decide +kernel) (Nat.le_of_ble_eq_true rfl) ?_
  intro p e s m args below meth c C
  refine v_eq (lv' := [(0, .ref (ad 49)), (1, .int (nI 10))]) rfl rfl rfl ?_
  refine v_iload_n C eX12_slh_0 rfl 1 rfl ?_
  refine v_bipush (v := (6 : Int32)) C eX12_slh_1 (by decide) ?_
  refine v_irem C eX12_slh_3 (by decide) ?_
  refine v_topi (fun t1 ht1 => ?_)
  refine v_istore_n (lv' := [(0, .ref (ad 49)), (1, .int (nI 10)), (2, .int t1)]) C eX12_slh_4 rfl (by decide) [1, 2, 0] rfl ?_
  refine v_aload_n C eX12_slh_5 rfl 0 rfl ?_
  refine v_iload_n C eX12_slh_6 rfl 2 rfl ?_
  refine v_iconst (v := (2 : Int32)) C eX12_slh_7 (by decide) ?_
  refine v_icmp_ge (tgt := 16) C eX12_slh_8 (by decide) (fun _ => ?_) (fun h => absurd (ix_le (a := 2) (b := 10 % 6) (rfl : (2 : Int32) = nI 2) (ht1.trans (ix_rem (a := 10) (d := 6) (rfl : nI 10 = nI 10) (rfl : (6 : Int32) = nI 6) (by omega) (by omega) (by omega))) (by omega) (by omega) (by omega)) h)
  refine v_iload_n C eX12_slh_16 rfl 2 rfl ?_
  refine v_iconst (v := (4 : Int32)) C eX12_slh_17 (by decide) ?_
  refine v_icmp_ge (tgt := 26) C eX12_slh_18 (by decide) (fun _ => ?_) (fun h => absurd (ix_le (a := 4) (b := 10 % 6) (rfl : (4 : Int32) = nI 4) (ht1.trans (ix_rem (a := 10) (d := 6) (rfl : nI 10 = nI 10) (rfl : (6 : Int32) = nI 6) (by omega) (by omega) (by omega))) (by omega) (by omega) (by omega)) h)
  refine v_bipush (v := (32 : Int32)) C eX12_slh_26 (by decide) ?_
  refine n_put (fs' := mO ad (upd ((ox σ)) 41 ((32 : Int32))) ((ot σ))) C I fX12_243_X12p eX12_slh_28 (hN 49 (by decide)) hC.obj rfl rfl (Nat.le_of_ble_eq_true rfl) rfl ?_
  refine v_aload_n C eX12_slh_31 rfl 0 rfl ?_
  refine v_iload_n C eX12_slh_32 rfl 2 rfl ?_
  refine v_if_eq (tgt := 41) C eX12_slh_33 (by decide) (fun h => absurd h (ix_ne (a := 10 % 6) (b := 0) (ht1.trans (ix_rem (a := 10) (d := 6) (rfl : nI 10 = nI 10) (rfl : (6 : Int32) = nI 6) (by omega) (by omega) (by omega))) (rfl : (0 : Int32) = nI 0) (by omega) (by omega) (by omega))) (fun _ => ?_)
  refine v_iload_n C eX12_slh_36 rfl 2 rfl ?_
  refine v_iconst (v := (2 : Int32)) C eX12_slh_37 (by decide) ?_
  refine v_icmp_ne (tgt := 46) C eX12_slh_38 (by decide) (fun _ => ?_) (fun h => absurd h (ix_ne (a := 10 % 6) (b := 2) (ht1.trans (ix_rem (a := 10) (d := 6) (rfl : nI 10 = nI 10) (rfl : (6 : Int32) = nI 6) (by omega) (by omega) (by omega))) (rfl : (2 : Int32) = nI 2) (by omega) (by omega) (by omega)))
  refine v_iload_n C eX12_slh_46 rfl 2 rfl ?_
  refine v_iconst (v := (4 : Int32)) C eX12_slh_47 (by decide) ?_
  refine v_icmp_ne (tgt := 56) C eX12_slh_48 (by decide) (fun h => absurd (ix_eq (a := 10 % 6) (b := 4) (ht1.trans (ix_rem (a := 10) (d := 6) (rfl : nI 10 = nI 10) (rfl : (6 : Int32) = nI 6) (by omega) (by omega) (by omega))) (rfl : (4 : Int32) = nI 4) (by omega) (by omega) (by omega)) h) (fun _ => ?_)
  refine v_bipush (v := (64 : Int32)) C eX12_slh_51 (by decide) ?_
  refine v_goto (tgt := 68) C eX12_slh_53 (by decide) ?_
  refine n_put (fs' := mO ad (upd (upd ((ox σ)) 41 ((32 : Int32))) 42 ((64 : Int32))) ((ot σ))) C I fX12_246_X12p eX12_slh_68 (hN 49 (by decide)) rfl rfl rfl (Nat.le_of_ble_eq_true rfl) rfl ?_
  refine v_aload_n C eX12_slh_71 rfl 0 rfl ?_
  refine v_iload_n C eX12_slh_72 rfl 2 rfl ?_
  refine v_if_eq (tgt := 81) C eX12_slh_73 (by decide) (fun h => absurd h (ix_ne (a := 10 % 6) (b := 0) (ht1.trans (ix_rem (a := 10) (d := 6) (rfl : nI 10 = nI 10) (rfl : (6 : Int32) = nI 6) (by omega) (by omega) (by omega))) (rfl : (0 : Int32) = nI 0) (by omega) (by omega) (by omega))) (fun _ => ?_)
  refine v_iload_n C eX12_slh_76 rfl 2 rfl ?_
  refine v_iconst (v := (2 : Int32)) C eX12_slh_77 (by decide) ?_
  refine v_icmp_ne (tgt := 86) C eX12_slh_78 (by decide) (fun _ => ?_) (fun h => absurd h (ix_ne (a := 10 % 6) (b := 2) (ht1.trans (ix_rem (a := 10) (d := 6) (rfl : nI 10 = nI 10) (rfl : (6 : Int32) = nI 6) (by omega) (by omega) (by omega))) (rfl : (2 : Int32) = nI 2) (by omega) (by omega) (by omega)))
  refine v_iload_n C eX12_slh_86 rfl 2 rfl ?_
  refine v_iconst (v := (4 : Int32)) C eX12_slh_87 (by decide) ?_
  refine v_icmp_ne (tgt := 96) C eX12_slh_88 (by decide) (fun h => absurd (ix_eq (a := 10 % 6) (b := 4) (ht1.trans (ix_rem (a := 10) (d := 6) (rfl : nI 10 = nI 10) (rfl : (6 : Int32) = nI 6) (by omega) (by omega) (by omega))) (rfl : (4 : Int32) = nI 4) (by omega) (by omega) (by omega)) h) (fun _ => ?_)
  refine v_bipush (v := (8 : Int32)) C eX12_slh_91 (by decide) ?_
  refine v_goto (tgt := 108) C eX12_slh_93 (by decide) ?_
  refine n_put (fs' := mO ad (upd (upd (upd ((ox σ)) 41 ((32 : Int32))) 42 ((64 : Int32))) 43 ((8 : Int32))) ((ot σ))) C I fX12_249_X12p eX12_slh_108 (hN 49 (by decide)) rfl rfl rfl (Nat.le_of_ble_eq_true rfl) rfl ?_
  refine v_aload_n C eX12_slh_111 rfl 0 rfl ?_
  refine v_iload_n C eX12_slh_112 rfl 2 rfl ?_
  refine v_if_ne (tgt := 121) C eX12_slh_113 (by decide) (fun _ => ?_) (fun h => absurd h (ix_ne (a := 10 % 6) (b := 0) (ht1.trans (ix_rem (a := 10) (d := 6) (rfl : nI 10 = nI 10) (rfl : (6 : Int32) = nI 6) (by omega) (by omega) (by omega))) (rfl : (0 : Int32) = nI 0) (by omega) (by omega) (by omega)))
  refine v_iload_n C eX12_slh_121 rfl 2 rfl ?_
  refine v_iconst (v := (1 : Int32)) C eX12_slh_122 (by decide) ?_
  refine v_icmp_ne (tgt := 131) C eX12_slh_123 (by decide) (fun _ => ?_) (fun h => absurd h (ix_ne (a := 10 % 6) (b := 1) (ht1.trans (ix_rem (a := 10) (d := 6) (rfl : nI 10 = nI 10) (rfl : (6 : Int32) = nI 6) (by omega) (by omega) (by omega))) (rfl : (1 : Int32) = nI 1) (by omega) (by omega) (by omega)))
  refine v_iload_n C eX12_slh_131 rfl 2 rfl ?_
  refine v_iconst (v := (2 : Int32)) C eX12_slh_132 (by decide) ?_
  refine v_icmp_eq (tgt := 141) C eX12_slh_133 (by decide) (fun h => absurd h (ix_ne (a := 10 % 6) (b := 2) (ht1.trans (ix_rem (a := 10) (d := 6) (rfl : nI 10 = nI 10) (rfl : (6 : Int32) = nI 6) (by omega) (by omega) (by omega))) (rfl : (2 : Int32) = nI 2) (by omega) (by omega) (by omega))) (fun _ => ?_)
  refine v_iload_n C eX12_slh_136 rfl 2 rfl ?_
  refine v_iconst (v := (4 : Int32)) C eX12_slh_137 (by decide) ?_
  refine v_icmp_ne (tgt := 146) C eX12_slh_138 (by decide) (fun h => absurd (ix_eq (a := 10 % 6) (b := 4) (ht1.trans (ix_rem (a := 10) (d := 6) (rfl : nI 10 = nI 10) (rfl : (6 : Int32) = nI 6) (by omega) (by omega) (by omega))) (rfl : (4 : Int32) = nI 4) (by omega) (by omega) (by omega)) h) (fun _ => ?_)
  refine v_bipush (v := (14 : Int32)) C eX12_slh_141 (by decide) ?_
  refine v_goto (tgt := 158) C eX12_slh_143 (by decide) ?_
  refine n_put (fs' := mO ad (upd (upd (upd (upd ((ox σ)) 41 ((32 : Int32))) 42 ((64 : Int32))) 43 ((8 : Int32))) 45 ((14 : Int32))) ((ot σ))) C I fX12_252_X12p eX12_slh_158 (hN 49 (by decide)) rfl rfl rfl (Nat.le_of_ble_eq_true rfl) rfl ?_
  refine v_aload_n C eX12_slh_161 rfl 0 rfl ?_
  refine v_iload_n C eX12_slh_162 rfl 2 rfl ?_
  refine v_if_ne (tgt := 171) C eX12_slh_163 (by decide) (fun _ => ?_) (fun h => absurd h (ix_ne (a := 10 % 6) (b := 0) (ht1.trans (ix_rem (a := 10) (d := 6) (rfl : nI 10 = nI 10) (rfl : (6 : Int32) = nI 6) (by omega) (by omega) (by omega))) (rfl : (0 : Int32) = nI 0) (by omega) (by omega) (by omega)))
  refine v_iload_n C eX12_slh_171 rfl 2 rfl ?_
  refine v_iconst (v := (1 : Int32)) C eX12_slh_172 (by decide) ?_
  refine v_icmp_eq (tgt := 181) C eX12_slh_173 (by decide) (fun h => absurd h (ix_ne (a := 10 % 6) (b := 1) (ht1.trans (ix_rem (a := 10) (d := 6) (rfl : nI 10 = nI 10) (rfl : (6 : Int32) = nI 6) (by omega) (by omega) (by omega))) (rfl : (1 : Int32) = nI 1) (by omega) (by omega) (by omega))) (fun _ => ?_)
  refine v_iload_n C eX12_slh_176 rfl 2 rfl ?_
  refine v_iconst (v := (3 : Int32)) C eX12_slh_177 (by decide) ?_
  refine v_icmp_ne (tgt := 186) C eX12_slh_178 (by decide) (fun _ => ?_) (fun h => absurd h (ix_ne (a := 10 % 6) (b := 3) (ht1.trans (ix_rem (a := 10) (d := 6) (rfl : nI 10 = nI 10) (rfl : (6 : Int32) = nI 6) (by omega) (by omega) (by omega))) (rfl : (3 : Int32) = nI 3) (by omega) (by omega) (by omega)))
  refine v_iload_n C eX12_slh_186 rfl 2 rfl ?_
  refine v_iconst (v := (2 : Int32)) C eX12_slh_187 (by decide) ?_
  refine v_icmp_ne (tgt := 196) C eX12_slh_188 (by decide) (fun _ => ?_) (fun h => absurd h (ix_ne (a := 10 % 6) (b := 2) (ht1.trans (ix_rem (a := 10) (d := 6) (rfl : nI 10 = nI 10) (rfl : (6 : Int32) = nI 6) (by omega) (by omega) (by omega))) (rfl : (2 : Int32) = nI 2) (by omega) (by omega) (by omega)))
  refine v_iload_n C eX12_slh_196 rfl 2 rfl ?_
  refine v_iconst (v := (4 : Int32)) C eX12_slh_197 (by decide) ?_
  refine v_icmp_ne (tgt := 206) C eX12_slh_198 (by decide) (fun h => absurd (ix_eq (a := 10 % 6) (b := 4) (ht1.trans (ix_rem (a := 10) (d := 6) (rfl : nI 10 = nI 10) (rfl : (6 : Int32) = nI 6) (by omega) (by omega) (by omega))) (rfl : (4 : Int32) = nI 4) (by omega) (by omega) (by omega)) h) (fun _ => ?_)
  refine v_bipush (v := (22 : Int32)) C eX12_slh_201 (by decide) ?_
  refine v_goto (tgt := 208) C eX12_slh_203 (by decide) ?_
  refine n_put (fs' := mO ad (upd (upd (upd (upd (upd ((ox σ)) 41 ((32 : Int32))) 42 ((64 : Int32))) 43 ((8 : Int32))) 45 ((14 : Int32))) 46 ((22 : Int32))) ((ot σ))) C I fX12_255_X12p eX12_slh_208 (hN 49 (by decide)) rfl rfl rfl (Nat.le_of_ble_eq_true rfl) rfl ?_
  refine v_aload_n C eX12_slh_211 rfl 0 rfl ?_
  refine v_aload_n C eX12_slh_212 rfl 0 rfl ?_
  refine n_get C I fX12_246_X12 eX12_slh_213 (hN 49 (by decide)) rfl rfl ?_
  refine v_aload_n C eX12_slh_216 rfl 0 rfl ?_
  refine n_get C I fX12_249_X12 eX12_slh_217 (hN 49 (by decide)) rfl rfl ?_
  refine v_idiv C eX12_slh_220 (show ¬ (8 : Int32) = 0 by decide) ?_
  refine n_put (fs' := mO ad (upd (upd (upd (upd (upd (upd ((ox σ)) 41 ((32 : Int32))) 42 ((64 : Int32))) 43 ((8 : Int32))) 44 (((64 : Int32)) / ((8 : Int32)))) 45 ((14 : Int32))) 46 ((22 : Int32))) ((ot σ))) C I fX12_258_X12p eX12_slh_221 (hN 49 (by decide)) rfl rfl rfl (Nat.le_of_ble_eq_true rfl) rfl ?_
  refine v_aload_n C eX12_slh_224 rfl 0 rfl ?_
  refine v_iconst (v := (2 : Int32)) C eX12_slh_225 (by decide) ?_
  refine v_aload_n C eX12_slh_226 rfl 0 rfl ?_
  refine n_get C I fX12_243_X12 eX12_slh_227 (hN 49 (by decide)) rfl rfl ?_
  refine v_imul C eX12_slh_230 ?_
  refine v_iconst (v := (3 : Int32)) C eX12_slh_231 (by decide) ?_
  refine v_iadd C eX12_slh_232 ?_
  refine n_put (fs' := mO ad (upd (upd (upd (upd (upd (upd (upd ((ox σ)) 41 ((32 : Int32))) 42 ((64 : Int32))) 43 ((8 : Int32))) 44 (((64 : Int32)) / ((8 : Int32)))) 45 ((14 : Int32))) 46 ((22 : Int32))) 47 ((((2 : Int32)) * ((32 : Int32))) + ((3 : Int32)))) ((ot σ))) C I fX12_261_X12p eX12_slh_233 (hN 49 (by decide)) rfl rfl rfl (Nat.le_of_ble_eq_true rfl) rfl ?_
  refine v_aload_n C eX12_slh_236 rfl 0 rfl ?_
  refine v_iload_n C eX12_slh_237 rfl 1 rfl ?_
  refine v_bipush (v := (6 : Int32)) C eX12_slh_238 (by decide) ?_
  refine v_icmp_ge (tgt := 247) C eX12_slh_240 (by decide) (fun _ => ?_) (fun h => absurd (ix_le (a := 6) (b := 10) (rfl : (6 : Int32) = nI 6) (rfl : nI 10 = nI 10) (by omega) (by omega) (by omega)) h)
  refine v_iconst (v := (0 : Int32)) C eX12_slh_247 (by decide) ?_
  refine n_put (fs' := mO ad (upd (upd (upd (upd (upd (upd (upd (upd ((ox σ)) 41 ((32 : Int32))) 42 ((64 : Int32))) 43 ((8 : Int32))) 44 (((64 : Int32)) / ((8 : Int32)))) 45 ((14 : Int32))) 46 ((22 : Int32))) 47 ((((2 : Int32)) * ((32 : Int32))) + ((3 : Int32)))) 48 ((0 : Int32))) ((ot σ))) C I fX12_264_X12p eX12_slh_248 (hN 49 (by decide)) rfl rfl rfl (Nat.le_of_ble_eq_true rfl) rfl ?_
  refine v_eq (w' := nW ad N (va_up σ 49 (eO 9 (mO ad (upd (upd (upd (upd (upd (upd (upd (upd ((ox σ)) 41 ((32 : Int32))) 42 ((64 : Int32))) 43 ((8 : Int32))) 44 (((64 : Int32)) / ((8 : Int32)))) 45 ((14 : Int32))) 46 ((22 : Int32))) 47 ((((2 : Int32)) * ((32 : Int32))) + ((3 : Int32)))) 48 ((0 : Int32))) ((ot σ)))))) (congrArg (nW ad N) (n_extL [49] ⟨rfl, trivial⟩ (fun q h => by simp only [List.mem_cons, List.not_mem_nil, or_false, not_or] at h; simp [va_up, h]))) rfl rfl ?_
  refine v_pic (fun ρ hρ => ?_)
  have hC1 : RS G ad θ (xS x 10) ρ := by
    rw [hρ]; exact hC.upO ⟨hC.i3, hC.i4, (show ((32 : Int32) : Int32) = nI 32 by decide), (show ((64 : Int32) : Int32) = nI 64 by decide), (show ((8 : Int32) : Int32) = nI 8 by decide), (show (((64 : Int32)) / ((8 : Int32)) : Int32) = nI 8 by decide), (show ((14 : Int32) : Int32) = nI 14 by decide), (show ((22 : Int32) : Int32) = nI 22 by decide), (show ((((2 : Int32)) * ((32 : Int32))) + ((3 : Int32)) : Int32) = nI 67 by decide), (show ((0 : Int32) : Int32) = 0 by decide)⟩
  have hk1 : ∀ k, ¬ (k = 28 ∨ k = 49) → ρ k = σ k := fun k hk => by rw [hρ]; exact n_ne (by omega)
  refine v_iconst (v := nI 0) C eX12_slh_251 (by decide) ?_
  refine v_istore_n (lv' := [(0, .ref (ad 49)), (1, .int (nI 10)), (2, .int t1), (3, .int (nI 0))]) C eX12_slh_252 rfl (by decide) [1, 2, 3, 0] rfl ?_
  refine v_pick (lv' := [(0, .ref (ad 49)), (1, .int (nI 10)), (3, .int (nI 0))]) [0, 1, 3] rfl ?_
  refine v_forP (fun j τ => RS G ad θ (xS x 10) τ ∧ (∀ k, ¬ (k = 28 ∨ k = 49) → τ k = σ k)) (fun j => [(0, .ref (ad 49)), (1, .int (nI 10)), (3, .int (nI j))]) 32 ?_ ?_ _ ⟨hC1, hk1⟩
  · intro τ hI
    obtain ⟨hC2, hk2⟩ := hI
    refine v_iload_n C eX12_slh_253 rfl 2 rfl ?_
    refine v_bipush (v := (32 : Int32)) C eX12_slh_254 (by decide) ?_
    refine v_icmp_ge (tgt := 272) C eX12_slh_256 (by decide) (fun _ => ?_) (fun h => absurd (ix_le (a := 32) (b := 32) (rfl : (32 : Int32) = nI 32) (rfl : nI 32 = nI 32) (by omega) (by omega) (by omega)) h)
    exact n_vret C rfl eX12_slh_272 ⟨rfl, hC2, hk2⟩
  · intro j hj ih τ hI
    obtain ⟨hC2, hk2⟩ := hI
    refine v_iload_n C eX12_slh_253 rfl 2 rfl ?_
    refine v_bipush (v := (32 : Int32)) C eX12_slh_254 (by decide) ?_
    refine v_icmp_ge (tgt := 272) C eX12_slh_256 (by decide) (fun h => absurd h (ix_nle (a := 32) (b := j) (rfl : (32 : Int32) = nI 32) (rfl : nI j = nI j) (by omega) (by omega) (by omega))) (fun _ => ?_)
    refine v_aload_n C eX12_slh_259 rfl 0 rfl ?_
    refine n_get C I fX12_81_X12 eX12_slh_260 (hN 49 (by decide)) hC2.obj rfl ?_
    refine v_iload_n C eX12_slh_263 rfl 2 rfl ?_
    refine v_iconst (v := (0 : Int32)) C eX12_slh_264 (by decide) ?_
    refine n_bast C I eX12_slh_265 (hN 28 (by decide)) (hC2.b 28 32 rfl (by decide)) j (rfl : nI j = nI j) (by omega) (by decide) ?_
    refine v_iinc (lv' := [(0, .ref (ad 49)), (1, .int (nI 10)), (3, .int (nI (j + 1)))]) C eX12_slh_266 2 rfl (ix_inc _) (by decide) [1, 2, 0] rfl ?_
    refine v_goto (tgt := 253) C eX12_slh_269 (by decide) ?_
    exact ih _ ⟨hC2.up rfl (by decide) _, fun k hk => (n_ne (by omega)).trans (hk2 k hk)⟩

set_option maxRecDepth 100000 in
set_option maxHeartbeats 4000000 in
theorem rs_slh11 (I : nI1 ad N) (hN : ∀ k, k < 74 → k < N) (hC : RS G ad θ x σ) : nOk G B l ad N yX12_slh cX12_slh 4 none 0 0 0 [.ref (ad 49), .int (nI 11)] σ (fun r σ' => r = none ∧ RS G ad θ (xS x 11) σ' ∧ (∀ k, ¬ (k = 28 ∨ k = 49) → σ' k = σ k)) := by
  refine vOk.of (by decide +kernel) (Nat.le_of_ble_eq_true rfl) ?_
  intro p e s m args below meth c C
  refine v_eq (lv' := [(0, .ref (ad 49)), (1, .int (nI 11))]) rfl rfl rfl ?_
  refine v_iload_n C eX12_slh_0 rfl 1 rfl ?_
  refine v_bipush (v := (6 : Int32)) C eX12_slh_1 (by decide) ?_
  refine v_irem C eX12_slh_3 (by decide) ?_
  refine v_topi (fun t1 ht1 => ?_)
  refine v_istore_n (lv' := [(0, .ref (ad 49)), (1, .int (nI 11)), (2, .int t1)]) C eX12_slh_4 rfl (by decide) [1, 2, 0] rfl ?_
  refine v_aload_n C eX12_slh_5 rfl 0 rfl ?_
  refine v_iload_n C eX12_slh_6 rfl 2 rfl ?_
  refine v_iconst (v := (2 : Int32)) C eX12_slh_7 (by decide) ?_
  refine v_icmp_ge (tgt := 16) C eX12_slh_8 (by decide) (fun _ => ?_) (fun h => absurd (ix_le (a := 2) (b := 11 % 6) (rfl : (2 : Int32) = nI 2) (ht1.trans (ix_rem (a := 11) (d := 6) (rfl : nI 11 = nI 11) (rfl : (6 : Int32) = nI 6) (by omega) (by omega) (by omega))) (by omega) (by omega) (by omega)) h)
  refine v_iload_n C eX12_slh_16 rfl 2 rfl ?_
  refine v_iconst (v := (4 : Int32)) C eX12_slh_17 (by decide) ?_
  refine v_icmp_ge (tgt := 26) C eX12_slh_18 (by decide) (fun _ => ?_) (fun h => absurd (ix_le (a := 4) (b := 11 % 6) (rfl : (4 : Int32) = nI 4) (ht1.trans (ix_rem (a := 11) (d := 6) (rfl : nI 11 = nI 11) (rfl : (6 : Int32) = nI 6) (by omega) (by omega) (by omega))) (by omega) (by omega) (by omega)) h)
  refine v_bipush (v := (32 : Int32)) C eX12_slh_26 (by decide) ?_
  refine n_put (fs' := mO ad (upd ((ox σ)) 41 ((32 : Int32))) ((ot σ))) C I fX12_243_X12p eX12_slh_28 (hN 49 (by decide)) hC.obj rfl rfl (Nat.le_of_ble_eq_true rfl) rfl ?_
  refine v_aload_n C eX12_slh_31 rfl 0 rfl ?_
  refine v_iload_n C eX12_slh_32 rfl 2 rfl ?_
  refine v_if_eq (tgt := 41) C eX12_slh_33 (by decide) (fun h => absurd h (ix_ne (a := 11 % 6) (b := 0) (ht1.trans (ix_rem (a := 11) (d := 6) (rfl : nI 11 = nI 11) (rfl : (6 : Int32) = nI 6) (by omega) (by omega) (by omega))) (rfl : (0 : Int32) = nI 0) (by omega) (by omega) (by omega))) (fun _ => ?_)
  refine v_iload_n C eX12_slh_36 rfl 2 rfl ?_
  refine v_iconst (v := (2 : Int32)) C eX12_slh_37 (by decide) ?_
  refine v_icmp_ne (tgt := 46) C eX12_slh_38 (by decide) (fun _ => ?_) (fun h => absurd h (ix_ne (a := 11 % 6) (b := 2) (ht1.trans (ix_rem (a := 11) (d := 6) (rfl : nI 11 = nI 11) (rfl : (6 : Int32) = nI 6) (by omega) (by omega) (by omega))) (rfl : (2 : Int32) = nI 2) (by omega) (by omega) (by omega)))
  refine v_iload_n C eX12_slh_46 rfl 2 rfl ?_
  refine v_iconst (v := (4 : Int32)) C eX12_slh_47 (by decide) ?_
  refine v_icmp_ne (tgt := 56) C eX12_slh_48 (by decide) (fun _ => ?_) (fun h => absurd h (ix_ne (a := 11 % 6) (b := 4) (ht1.trans (ix_rem (a := 11) (d := 6) (rfl : nI 11 = nI 11) (rfl : (6 : Int32) = nI 6) (by omega) (by omega) (by omega))) (rfl : (4 : Int32) = nI 4) (by omega) (by omega) (by omega)))
  refine v_iload_n C eX12_slh_56 rfl 2 rfl ?_
  refine v_iconst (v := (5 : Int32)) C eX12_slh_57 (by decide) ?_
  refine v_icmp_ne (tgt := 66) C eX12_slh_58 (by decide) (fun h => absurd (ix_eq (a := 11 % 6) (b := 5) (ht1.trans (ix_rem (a := 11) (d := 6) (rfl : nI 11 = nI 11) (rfl : (6 : Int32) = nI 6) (by omega) (by omega) (by omega))) (rfl : (5 : Int32) = nI 5) (by omega) (by omega) (by omega)) h) (fun _ => ?_)
  refine v_bipush (v := (68 : Int32)) C eX12_slh_61 (by decide) ?_
  refine v_goto (tgt := 68) C eX12_slh_63 (by decide) ?_
  refine n_put (fs' := mO ad (upd (upd ((ox σ)) 41 ((32 : Int32))) 42 ((68 : Int32))) ((ot σ))) C I fX12_246_X12p eX12_slh_68 (hN 49 (by decide)) rfl rfl rfl (Nat.le_of_ble_eq_true rfl) rfl ?_
  refine v_aload_n C eX12_slh_71 rfl 0 rfl ?_
  refine v_iload_n C eX12_slh_72 rfl 2 rfl ?_
  refine v_if_eq (tgt := 81) C eX12_slh_73 (by decide) (fun h => absurd h (ix_ne (a := 11 % 6) (b := 0) (ht1.trans (ix_rem (a := 11) (d := 6) (rfl : nI 11 = nI 11) (rfl : (6 : Int32) = nI 6) (by omega) (by omega) (by omega))) (rfl : (0 : Int32) = nI 0) (by omega) (by omega) (by omega))) (fun _ => ?_)
  refine v_iload_n C eX12_slh_76 rfl 2 rfl ?_
  refine v_iconst (v := (2 : Int32)) C eX12_slh_77 (by decide) ?_
  refine v_icmp_ne (tgt := 86) C eX12_slh_78 (by decide) (fun _ => ?_) (fun h => absurd h (ix_ne (a := 11 % 6) (b := 2) (ht1.trans (ix_rem (a := 11) (d := 6) (rfl : nI 11 = nI 11) (rfl : (6 : Int32) = nI 6) (by omega) (by omega) (by omega))) (rfl : (2 : Int32) = nI 2) (by omega) (by omega) (by omega)))
  refine v_iload_n C eX12_slh_86 rfl 2 rfl ?_
  refine v_iconst (v := (4 : Int32)) C eX12_slh_87 (by decide) ?_
  refine v_icmp_ne (tgt := 96) C eX12_slh_88 (by decide) (fun _ => ?_) (fun h => absurd h (ix_ne (a := 11 % 6) (b := 4) (ht1.trans (ix_rem (a := 11) (d := 6) (rfl : nI 11 = nI 11) (rfl : (6 : Int32) = nI 6) (by omega) (by omega) (by omega))) (rfl : (4 : Int32) = nI 4) (by omega) (by omega) (by omega)))
  refine v_iload_n C eX12_slh_96 rfl 2 rfl ?_
  refine v_iconst (v := (5 : Int32)) C eX12_slh_97 (by decide) ?_
  refine v_icmp_ne (tgt := 106) C eX12_slh_98 (by decide) (fun h => absurd (ix_eq (a := 11 % 6) (b := 5) (ht1.trans (ix_rem (a := 11) (d := 6) (rfl : nI 11 = nI 11) (rfl : (6 : Int32) = nI 6) (by omega) (by omega) (by omega))) (rfl : (5 : Int32) = nI 5) (by omega) (by omega) (by omega)) h) (fun _ => ?_)
  refine v_bipush (v := (17 : Int32)) C eX12_slh_101 (by decide) ?_
  refine v_goto (tgt := 108) C eX12_slh_103 (by decide) ?_
  refine n_put (fs' := mO ad (upd (upd (upd ((ox σ)) 41 ((32 : Int32))) 42 ((68 : Int32))) 43 ((17 : Int32))) ((ot σ))) C I fX12_249_X12p eX12_slh_108 (hN 49 (by decide)) rfl rfl rfl (Nat.le_of_ble_eq_true rfl) rfl ?_
  refine v_aload_n C eX12_slh_111 rfl 0 rfl ?_
  refine v_iload_n C eX12_slh_112 rfl 2 rfl ?_
  refine v_if_ne (tgt := 121) C eX12_slh_113 (by decide) (fun _ => ?_) (fun h => absurd h (ix_ne (a := 11 % 6) (b := 0) (ht1.trans (ix_rem (a := 11) (d := 6) (rfl : nI 11 = nI 11) (rfl : (6 : Int32) = nI 6) (by omega) (by omega) (by omega))) (rfl : (0 : Int32) = nI 0) (by omega) (by omega) (by omega)))
  refine v_iload_n C eX12_slh_121 rfl 2 rfl ?_
  refine v_iconst (v := (1 : Int32)) C eX12_slh_122 (by decide) ?_
  refine v_icmp_ne (tgt := 131) C eX12_slh_123 (by decide) (fun _ => ?_) (fun h => absurd h (ix_ne (a := 11 % 6) (b := 1) (ht1.trans (ix_rem (a := 11) (d := 6) (rfl : nI 11 = nI 11) (rfl : (6 : Int32) = nI 6) (by omega) (by omega) (by omega))) (rfl : (1 : Int32) = nI 1) (by omega) (by omega) (by omega)))
  refine v_iload_n C eX12_slh_131 rfl 2 rfl ?_
  refine v_iconst (v := (2 : Int32)) C eX12_slh_132 (by decide) ?_
  refine v_icmp_eq (tgt := 141) C eX12_slh_133 (by decide) (fun h => absurd h (ix_ne (a := 11 % 6) (b := 2) (ht1.trans (ix_rem (a := 11) (d := 6) (rfl : nI 11 = nI 11) (rfl : (6 : Int32) = nI 6) (by omega) (by omega) (by omega))) (rfl : (2 : Int32) = nI 2) (by omega) (by omega) (by omega))) (fun _ => ?_)
  refine v_iload_n C eX12_slh_136 rfl 2 rfl ?_
  refine v_iconst (v := (4 : Int32)) C eX12_slh_137 (by decide) ?_
  refine v_icmp_ne (tgt := 146) C eX12_slh_138 (by decide) (fun _ => ?_) (fun h => absurd h (ix_ne (a := 11 % 6) (b := 4) (ht1.trans (ix_rem (a := 11) (d := 6) (rfl : nI 11 = nI 11) (rfl : (6 : Int32) = nI 6) (by omega) (by omega) (by omega))) (rfl : (4 : Int32) = nI 4) (by omega) (by omega) (by omega)))
  refine v_iload_n C eX12_slh_146 rfl 2 rfl ?_
  refine v_iconst (v := (3 : Int32)) C eX12_slh_147 (by decide) ?_
  refine v_icmp_ne (tgt := 156) C eX12_slh_148 (by decide) (fun _ => ?_) (fun h => absurd h (ix_ne (a := 11 % 6) (b := 3) (ht1.trans (ix_rem (a := 11) (d := 6) (rfl : nI 11 = nI 11) (rfl : (6 : Int32) = nI 6) (by omega) (by omega) (by omega))) (rfl : (3 : Int32) = nI 3) (by omega) (by omega) (by omega)))
  refine v_bipush (v := (9 : Int32)) C eX12_slh_156 (by decide) ?_
  refine n_put (fs' := mO ad (upd (upd (upd (upd ((ox σ)) 41 ((32 : Int32))) 42 ((68 : Int32))) 43 ((17 : Int32))) 45 ((9 : Int32))) ((ot σ))) C I fX12_252_X12p eX12_slh_158 (hN 49 (by decide)) rfl rfl rfl (Nat.le_of_ble_eq_true rfl) rfl ?_
  refine v_aload_n C eX12_slh_161 rfl 0 rfl ?_
  refine v_iload_n C eX12_slh_162 rfl 2 rfl ?_
  refine v_if_ne (tgt := 171) C eX12_slh_163 (by decide) (fun _ => ?_) (fun h => absurd h (ix_ne (a := 11 % 6) (b := 0) (ht1.trans (ix_rem (a := 11) (d := 6) (rfl : nI 11 = nI 11) (rfl : (6 : Int32) = nI 6) (by omega) (by omega) (by omega))) (rfl : (0 : Int32) = nI 0) (by omega) (by omega) (by omega)))
  refine v_iload_n C eX12_slh_171 rfl 2 rfl ?_
  refine v_iconst (v := (1 : Int32)) C eX12_slh_172 (by decide) ?_
  refine v_icmp_eq (tgt := 181) C eX12_slh_173 (by decide) (fun h => absurd h (ix_ne (a := 11 % 6) (b := 1) (ht1.trans (ix_rem (a := 11) (d := 6) (rfl : nI 11 = nI 11) (rfl : (6 : Int32) = nI 6) (by omega) (by omega) (by omega))) (rfl : (1 : Int32) = nI 1) (by omega) (by omega) (by omega))) (fun _ => ?_)
  refine v_iload_n C eX12_slh_176 rfl 2 rfl ?_
  refine v_iconst (v := (3 : Int32)) C eX12_slh_177 (by decide) ?_
  refine v_icmp_ne (tgt := 186) C eX12_slh_178 (by decide) (fun _ => ?_) (fun h => absurd h (ix_ne (a := 11 % 6) (b := 3) (ht1.trans (ix_rem (a := 11) (d := 6) (rfl : nI 11 = nI 11) (rfl : (6 : Int32) = nI 6) (by omega) (by omega) (by omega))) (rfl : (3 : Int32) = nI 3) (by omega) (by omega) (by omega)))
  refine v_iload_n C eX12_slh_186 rfl 2 rfl ?_
  refine v_iconst (v := (2 : Int32)) C eX12_slh_187 (by decide) ?_
  refine v_icmp_ne (tgt := 196) C eX12_slh_188 (by decide) (fun _ => ?_) (fun h => absurd h (ix_ne (a := 11 % 6) (b := 2) (ht1.trans (ix_rem (a := 11) (d := 6) (rfl : nI 11 = nI 11) (rfl : (6 : Int32) = nI 6) (by omega) (by omega) (by omega))) (rfl : (2 : Int32) = nI 2) (by omega) (by omega) (by omega)))
  refine v_iload_n C eX12_slh_196 rfl 2 rfl ?_
  refine v_iconst (v := (4 : Int32)) C eX12_slh_197 (by decide) ?_
  refine v_icmp_ne (tgt := 206) C eX12_slh_198 (by decide) (fun _ => ?_) (fun h => absurd h (ix_ne (a := 11 % 6) (b := 4) (ht1.trans (ix_rem (a := 11) (d := 6) (rfl : nI 11 = nI 11) (rfl : (6 : Int32) = nI 6) (by omega) (by omega) (by omega))) (rfl : (4 : Int32) = nI 4) (by omega) (by omega) (by omega)))
  refine v_bipush (v := (35 : Int32)) C eX12_slh_206 (by decide) ?_
  refine n_put (fs' := mO ad (upd (upd (upd (upd (upd ((ox σ)) 41 ((32 : Int32))) 42 ((68 : Int32))) 43 ((17 : Int32))) 45 ((9 : Int32))) 46 ((35 : Int32))) ((ot σ))) C I fX12_255_X12p eX12_slh_208 (hN 49 (by decide)) rfl rfl rfl (Nat.le_of_ble_eq_true rfl) rfl ?_
  refine v_aload_n C eX12_slh_211 rfl 0 rfl ?_
  refine v_aload_n C eX12_slh_212 rfl 0 rfl ?_
  refine n_get C I fX12_246_X12 eX12_slh_213 (hN 49 (by decide)) rfl rfl ?_
  refine v_aload_n C eX12_slh_216 rfl 0 rfl ?_
  refine n_get C I fX12_249_X12 eX12_slh_217 (hN 49 (by decide)) rfl rfl ?_
  refine v_idiv C eX12_slh_220 (show ¬ (17 : Int32) = 0 by decide) ?_
  refine n_put (fs' := mO ad (upd (upd (upd (upd (upd (upd ((ox σ)) 41 ((32 : Int32))) 42 ((68 : Int32))) 43 ((17 : Int32))) 44 (((68 : Int32)) / ((17 : Int32)))) 45 ((9 : Int32))) 46 ((35 : Int32))) ((ot σ))) C I fX12_258_X12p eX12_slh_221 (hN 49 (by decide)) rfl rfl rfl (Nat.le_of_ble_eq_true rfl) rfl ?_
  refine v_aload_n C eX12_slh_224 rfl 0 rfl ?_
  refine v_iconst (v := (2 : Int32)) C eX12_slh_225 (by decide) ?_
  refine v_aload_n C eX12_slh_226 rfl 0 rfl ?_
  refine n_get C I fX12_243_X12 eX12_slh_227 (hN 49 (by decide)) rfl rfl ?_
  refine v_imul C eX12_slh_230 ?_
  refine v_iconst (v := (3 : Int32)) C eX12_slh_231 (by decide) ?_
  refine v_iadd C eX12_slh_232 ?_
  refine n_put (fs' := mO ad (upd (upd (upd (upd (upd (upd (upd ((ox σ)) 41 ((32 : Int32))) 42 ((68 : Int32))) 43 ((17 : Int32))) 44 (((68 : Int32)) / ((17 : Int32)))) 45 ((9 : Int32))) 46 ((35 : Int32))) 47 ((((2 : Int32)) * ((32 : Int32))) + ((3 : Int32)))) ((ot σ))) C I fX12_261_X12p eX12_slh_233 (hN 49 (by decide)) rfl rfl rfl (Nat.le_of_ble_eq_true rfl) rfl ?_
  refine v_aload_n C eX12_slh_236 rfl 0 rfl ?_
  refine v_iload_n C eX12_slh_237 rfl 1 rfl ?_
  refine v_bipush (v := (6 : Int32)) C eX12_slh_238 (by decide) ?_
  refine v_icmp_ge (tgt := 247) C eX12_slh_240 (by decide) (fun _ => ?_) (fun h => absurd (ix_le (a := 6) (b := 11) (rfl : (6 : Int32) = nI 6) (rfl : nI 11 = nI 11) (by omega) (by omega) (by omega)) h)
  refine v_iconst (v := (0 : Int32)) C eX12_slh_247 (by decide) ?_
  refine n_put (fs' := mO ad (upd (upd (upd (upd (upd (upd (upd (upd ((ox σ)) 41 ((32 : Int32))) 42 ((68 : Int32))) 43 ((17 : Int32))) 44 (((68 : Int32)) / ((17 : Int32)))) 45 ((9 : Int32))) 46 ((35 : Int32))) 47 ((((2 : Int32)) * ((32 : Int32))) + ((3 : Int32)))) 48 ((0 : Int32))) ((ot σ))) C I fX12_264_X12p eX12_slh_248 (hN 49 (by decide)) rfl rfl rfl (Nat.le_of_ble_eq_true rfl) rfl ?_
  refine v_eq (w' := nW ad N (va_up σ 49 (eO 9 (mO ad (upd (upd (upd (upd (upd (upd (upd (upd ((ox σ)) 41 ((32 : Int32))) 42 ((68 : Int32))) 43 ((17 : Int32))) 44 (((68 : Int32)) / ((17 : Int32)))) 45 ((9 : Int32))) 46 ((35 : Int32))) 47 ((((2 : Int32)) * ((32 : Int32))) + ((3 : Int32)))) 48 ((0 : Int32))) ((ot σ)))))) (congrArg (nW ad N) (n_extL [49] ⟨rfl, trivial⟩ (fun q h => by simp only [List.mem_cons, List.not_mem_nil, or_false, not_or] at h; simp [va_up, h]))) rfl rfl ?_
  refine v_pic (fun ρ hρ => ?_)
  have hC1 : RS G ad θ (xS x 11) ρ := by
    rw [hρ]; exact hC.upO ⟨hC.i3, hC.i4, (show ((32 : Int32) : Int32) = nI 32 by decide), (show ((68 : Int32) : Int32) = nI 68 by decide), (show ((17 : Int32) : Int32) = nI 17 by decide), (show (((68 : Int32)) / ((17 : Int32)) : Int32) = nI 4 by decide), (show ((9 : Int32) : Int32) = nI 9 by decide), (show ((35 : Int32) : Int32) = nI 35 by decide), (show ((((2 : Int32)) * ((32 : Int32))) + ((3 : Int32)) : Int32) = nI 67 by decide), (show ((0 : Int32) : Int32) = 0 by decide)⟩
  have hk1 : ∀ k, ¬ (k = 28 ∨ k = 49) → ρ k = σ k := fun k hk => by rw [hρ]; exact n_ne (by omega)
  refine v_iconst (v := nI 0) C eX12_slh_251 (by decide) ?_
  refine v_istore_n (lv' := [(0, .ref (ad 49)), (1, .int (nI 11)), (2, .int t1), (3, .int (nI 0))]) C eX12_slh_252 rfl (by decide) [1, 2, 3, 0] rfl ?_
  refine v_pick (lv' := [(0, .ref (ad 49)), (1, .int (nI 11)), (3, .int (nI 0))]) [0, 1, 3] rfl ?_
  refine v_forP (fun j τ => RS G ad θ (xS x 11) τ ∧ (∀ k, ¬ (k = 28 ∨ k = 49) → τ k = σ k)) (fun j => [(0, .ref (ad 49)), (1, .int (nI 11)), (3, .int (nI j))]) 32 ?_ ?_ _ ⟨hC1, hk1⟩
  · intro τ hI
    obtain ⟨hC2, hk2⟩ := hI
    refine v_iload_n C eX12_slh_253 rfl 2 rfl ?_
    refine v_bipush (v := (32 : Int32)) C eX12_slh_254 (by decide) ?_
    refine v_icmp_ge (tgt := 272) C eX12_slh_256 (by decide) (fun _ => ?_) (fun h => absurd (ix_le (a := 32) (b := 32) (rfl : (32 : Int32) = nI 32) (rfl : nI 32 = nI 32) (by omega) (by omega) (by omega)) h)
    exact n_vret C rfl eX12_slh_272 ⟨rfl, hC2, hk2⟩
  · intro j hj ih τ hI
    obtain ⟨hC2, hk2⟩ := hI
    refine v_iload_n C eX12_slh_253 rfl 2 rfl ?_
    refine v_bipush (v := (32 : Int32)) C eX12_slh_254 (by decide) ?_
    refine v_icmp_ge (tgt := 272) C eX12_slh_256 (by decide) (fun h => absurd h (ix_nle (a := 32) (b := j) (rfl : (32 : Int32) = nI 32) (rfl : nI j = nI j) (by omega) (by omega) (by omega))) (fun _ => ?_)
    refine v_aload_n C eX12_slh_259 rfl 0 rfl ?_
    refine n_get C I fX12_81_X12 eX12_slh_260 (hN 49 (by decide)) hC2.obj rfl ?_
    refine v_iload_n C eX12_slh_263 rfl 2 rfl ?_
    refine v_iconst (v := (0 : Int32)) C eX12_slh_264 (by decide) ?_
    refine n_bast C I eX12_slh_265 (hN 28 (by decide)) (hC2.b 28 32 rfl (by decide)) j (rfl : nI j = nI j) (by omega) (by decide) ?_
    refine v_iinc (lv' := [(0, .ref (ad 49)), (1, .int (nI 11)), (3, .int (nI (j + 1)))]) C eX12_slh_266 2 rfl (ix_inc _) (by decide) [1, 2, 0] rfl ?_
    refine v_goto (tgt := 253) C eX12_slh_269 (by decide) ?_
    exact ih _ ⟨hC2.up rfl (by decide) _, fun k hk => (n_ne (by omega)).trans (hk2 k hk)⟩

theorem rs_slh (I : nI1 ad N) (hN : ∀ k, k < 74 → k < N) (hC : RS G ad θ x σ) : ∀ (s : Nat), s < 12 → nOk G B l ad N yX12_slh cX12_slh 4 none 0 0 0 [.ref (ad 49), .int (nI s)] σ (fun r σ' => r = none ∧ RS G ad θ (xS x s) σ' ∧ (∀ k, ¬ (k = 28 ∨ k = 49) → σ' k = σ k))
  | 0, _ => rs_slh0 I hN hC
  | 1, _ => rs_slh1 I hN hC
  | 2, _ => rs_slh2 I hN hC
  | 3, _ => rs_slh3 I hN hC
  | 4, _ => rs_slh4 I hN hC
  | 5, _ => rs_slh5 I hN hC
  | 6, _ => rs_slh6 I hN hC
  | 7, _ => rs_slh7 I hN hC
  | 8, _ => rs_slh8 I hN hC
  | 9, _ => rs_slh9 I hN hC
  | 10, _ => rs_slh10 I hN hC
  | 11, _ => rs_slh11 I hN hC
  | n + 12, h => absurd h (by omega)
end M25
