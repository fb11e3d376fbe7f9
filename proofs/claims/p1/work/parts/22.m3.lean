theorem eX12_compress32_0 : vD cX12_compress32 0 (.iconst 0) 1 1 := ⟨by decide +kernel, rfl⟩
theorem eX12_compress32_1 : vD cX12_compress32 1 (.istore_n 1) 1 2 := ⟨by decide +kernel, rfl⟩
theorem eX12_compress32_2 : vD cX12_compress32 2 (.iload_n 1) 1 3 := ⟨by decide +kernel, rfl⟩
theorem eX12_compress32_3 : vD cX12_compress32 3 (.bipush 16) 2 5 := ⟨by decide +kernel, rfl⟩
theorem eX12_compress32_5 : vD cX12_compress32 5 (.if_icmp .ge 52) 3 8 := ⟨by decide +kernel, rfl⟩
theorem eX12_compress32_8 : vD cX12_compress32 8 (.iconst 0) 1 9 := ⟨by decide +kernel, rfl⟩
theorem eX12_compress32_9 : vD cX12_compress32 9 (.istore_n 2) 1 10 := ⟨by decide +kernel, rfl⟩
theorem eX12_compress32_10 : vD cX12_compress32 10 (.iconst 0) 1 11 := ⟨by decide +kernel, rfl⟩
theorem eX12_compress32_11 : vD cX12_compress32 11 (.istore_n 3) 1 12 := ⟨by decide +kernel, rfl⟩
theorem eX12_compress32_12 : vD cX12_compress32 12 (.iload_n 3) 1 13 := ⟨by decide +kernel, rfl⟩
theorem eX12_compress32_13 : vD cX12_compress32 13 (.iconst 4) 1 14 := ⟨by decide +kernel, rfl⟩
theorem eX12_compress32_14 : vD cX12_compress32 14 (.if_icmp .ge 29) 3 17 := ⟨by decide +kernel, rfl⟩
theorem eX12_compress32_17 : vD cX12_compress32 17 (.iload_n 2) 1 18 := ⟨by decide +kernel, rfl⟩
theorem eX12_compress32_18 : vD cX12_compress32 18 (.bipush 8) 2 20 := ⟨by decide +kernel, rfl⟩
theorem eX12_compress32_20 : vD cX12_compress32 20 .ishl 1 21 := ⟨by decide +kernel, rfl⟩
theorem eX12_compress32_21 : vD cX12_compress32 21 (.aload_n 0) 1 22 := ⟨by decide +kernel, rfl⟩
theorem eX12_compress32_22 : vD cX12_compress32 22 (.getfield 60) 3 25 := ⟨by decide +kernel, rfl⟩
theorem eX12_compress32_25 : vD cX12_compress32 25 (.iconst 4) 1 26 := ⟨by decide +kernel, rfl⟩
theorem eX12_compress32_26 : vD cX12_compress32 26 (.iload_n 1) 1 27 := ⟨by decide +kernel, rfl⟩
theorem eX12_compress32_27 : vD cX12_compress32 27 .imul 1 28 := ⟨by decide +kernel, rfl⟩
theorem eX12_compress32_28 : vD cX12_compress32 28 (.iload_n 3) 1 29 := ⟨by decide +kernel, rfl⟩
theorem eX12_compress32_29 : vD cX12_compress32 29 .iadd 1 30 := ⟨by decide +kernel, rfl⟩
theorem eX12_compress32_30 : vD cX12_compress32 30 .baload 1 31 := ⟨by decide +kernel, rfl⟩
theorem eX12_compress32_31 : vD cX12_compress32 31 (.sipush 255) 3 34 := ⟨by decide +kernel, rfl⟩
theorem eX12_compress32_34 : vD cX12_compress32 34 .iand 1 35 := ⟨by decide +kernel, rfl⟩
theorem eX12_compress32_35 : vD cX12_compress32 35 .ior 1 36 := ⟨by decide +kernel, rfl⟩
theorem eX12_compress32_36 : vD cX12_compress32 36 (.istore_n 2) 1 37 := ⟨by decide +kernel, rfl⟩
theorem eX12_compress32_37 : vD cX12_compress32 37 (.iinc 3 1) 3 40 := ⟨by decide +kernel, rfl⟩
theorem eX12_compress32_40 : vD cX12_compress32 40 (.goto (-28)) 3 43 := ⟨by decide +kernel, rfl⟩
theorem eX12_compress32_43 : vD cX12_compress32 43 (.aload_n 0) 1 44 := ⟨by decide +kernel, rfl⟩
theorem eX12_compress32_44 : vD cX12_compress32 44 (.getfield 57) 3 47 := ⟨by decide +kernel, rfl⟩
theorem eX12_compress32_47 : vD cX12_compress32 47 (.iload_n 1) 1 48 := ⟨by decide +kernel, rfl⟩
theorem eX12_compress32_48 : vD cX12_compress32 48 (.iload_n 2) 1 49 := ⟨by decide +kernel, rfl⟩
theorem eX12_compress32_49 : vD cX12_compress32 49 .i2l 1 50 := ⟨by decide +kernel, rfl⟩
theorem eX12_compress32_50 : vD cX12_compress32 50 .lastore 1 51 := ⟨by decide +kernel, rfl⟩
theorem eX12_compress32_51 : vD cX12_compress32 51 (.iinc 1 1) 3 54 := ⟨by decide +kernel, rfl⟩
theorem eX12_compress32_54 : vD cX12_compress32 54 (.goto (-52)) 3 57 := ⟨by decide +kernel, rfl⟩
theorem eX12_compress32_57 : vD cX12_compress32 57 (.bipush 16) 2 59 := ⟨by decide +kernel, rfl⟩
theorem eX12_compress32_59 : vD cX12_compress32 59 (.istore_n 1) 1 60 := ⟨by decide +kernel, rfl⟩
theorem eX12_compress32_60 : vD cX12_compress32 60 (.iload_n 1) 1 61 := ⟨by decide +kernel, rfl⟩
theorem eX12_compress32_61 : vD cX12_compress32 61 (.bipush 64) 2 63 := ⟨by decide +kernel, rfl⟩
theorem eX12_compress32_63 : vD cX12_compress32 63 (.if_icmp .ge 95) 3 66 := ⟨by decide +kernel, rfl⟩
theorem eX12_compress32_66 : vD cX12_compress32 66 (.aload_n 0) 1 67 := ⟨by decide +kernel, rfl⟩
theorem eX12_compress32_67 : vD cX12_compress32 67 (.getfield 57) 3 70 := ⟨by decide +kernel, rfl⟩
theorem eX12_compress32_70 : vD cX12_compress32 70 (.iload_n 1) 1 71 := ⟨by decide +kernel, rfl⟩
theorem eX12_compress32_71 : vD cX12_compress32 71 (.iconst 2) 1 72 := ⟨by decide +kernel, rfl⟩
theorem eX12_compress32_72 : vD cX12_compress32 72 .isub 1 73 := ⟨by decide +kernel, rfl⟩
theorem eX12_compress32_73 : vD cX12_compress32 73 .laload 1 74 := ⟨by decide +kernel, rfl⟩
theorem eX12_compress32_74 : vD cX12_compress32 74 .l2i 1 75 := ⟨by decide +kernel, rfl⟩
theorem eX12_compress32_75 : vD cX12_compress32 75 (.istore_n 2) 1 76 := ⟨by decide +kernel, rfl⟩
theorem eX12_compress32_76 : vD cX12_compress32 76 (.aload_n 0) 1 77 := ⟨by decide +kernel, rfl⟩
theorem eX12_compress32_77 : vD cX12_compress32 77 (.getfield 57) 3 80 := ⟨by decide +kernel, rfl⟩
theorem eX12_compress32_80 : vD cX12_compress32 80 (.iload_n 1) 1 81 := ⟨by decide +kernel, rfl⟩
theorem eX12_compress32_81 : vD cX12_compress32 81 (.bipush 15) 2 83 := ⟨by decide +kernel, rfl⟩
theorem eX12_compress32_83 : vD cX12_compress32 83 .isub 1 84 := ⟨by decide +kernel, rfl⟩
theorem eX12_compress32_84 : vD cX12_compress32 84 .laload 1 85 := ⟨by decide +kernel, rfl⟩
theorem eX12_compress32_85 : vD cX12_compress32 85 .l2i 1 86 := ⟨by decide +kernel, rfl⟩
theorem eX12_compress32_86 : vD cX12_compress32 86 (.istore_n 3) 1 87 := ⟨by decide +kernel, rfl⟩
theorem eX12_compress32_87 : vD cX12_compress32 87 (.aload_n 0) 1 88 := ⟨by decide +kernel, rfl⟩
theorem eX12_compress32_88 : vD cX12_compress32 88 (.getfield 57) 3 91 := ⟨by decide +kernel, rfl⟩
theorem eX12_compress32_91 : vD cX12_compress32 91 (.iload_n 1) 1 92 := ⟨by decide +kernel, rfl⟩
theorem eX12_compress32_92 : vD cX12_compress32 92 (.iload_n 2) 1 93 := ⟨by decide +kernel, rfl⟩
theorem eX12_compress32_93 : vD cX12_compress32 93 (.bipush 17) 2 95 := ⟨by decide +kernel, rfl⟩
theorem eX12_compress32_95 : vD cX12_compress32 95 (.invokestatic 224) 3 98 := ⟨by decide +kernel, rfl⟩
theorem eX12_compress32_98 : vD cX12_compress32 98 (.iload_n 2) 1 99 := ⟨by decide +kernel, rfl⟩
theorem eX12_compress32_99 : vD cX12_compress32 99 (.bipush 19) 2 101 := ⟨by decide +kernel, rfl⟩
theorem eX12_compress32_101 : vD cX12_compress32 101 (.invokestatic 224) 3 104 := ⟨by decide +kernel, rfl⟩
theorem eX12_compress32_104 : vD cX12_compress32 104 .ixor 1 105 := ⟨by decide +kernel, rfl⟩
theorem eX12_compress32_105 : vD cX12_compress32 105 (.iload_n 2) 1 106 := ⟨by decide +kernel, rfl⟩
theorem eX12_compress32_106 : vD cX12_compress32 106 (.bipush 10) 2 108 := ⟨by decide +kernel, rfl⟩
theorem eX12_compress32_108 : vD cX12_compress32 108 .iushr 1 109 := ⟨by decide +kernel, rfl⟩
theorem eX12_compress32_109 : vD cX12_compress32 109 .ixor 1 110 := ⟨by decide +kernel, rfl⟩
theorem eX12_compress32_110 : vD cX12_compress32 110 (.aload_n 0) 1 111 := ⟨by decide +kernel, rfl⟩
theorem eX12_compress32_111 : vD cX12_compress32 111 (.getfield 57) 3 114 := ⟨by decide +kernel, rfl⟩
theorem eX12_compress32_114 : vD cX12_compress32 114 (.iload_n 1) 1 115 := ⟨by decide +kernel, rfl⟩
theorem eX12_compress32_115 : vD cX12_compress32 115 (.bipush 7) 2 117 := ⟨by decide +kernel, rfl⟩
theorem eX12_compress32_117 : vD cX12_compress32 117 .isub 1 118 := ⟨by decide +kernel, rfl⟩
theorem eX12_compress32_118 : vD cX12_compress32 118 .laload 1 119 := ⟨by decide +kernel, rfl⟩
theorem eX12_compress32_119 : vD cX12_compress32 119 .l2i 1 120 := ⟨by decide +kernel, rfl⟩
theorem eX12_compress32_120 : vD cX12_compress32 120 .iadd 1 121 := ⟨by decide +kernel, rfl⟩
theorem eX12_compress32_121 : vD cX12_compress32 121 (.iload_n 3) 1 122 := ⟨by decide +kernel, rfl⟩
theorem eX12_compress32_122 : vD cX12_compress32 122 (.bipush 7) 2 124 := ⟨by decide +kernel, rfl⟩
theorem eX12_compress32_124 : vD cX12_compress32 124 (.invokestatic 224) 3 127 := ⟨by decide +kernel, rfl⟩
theorem eX12_compress32_127 : vD cX12_compress32 127 (.iload_n 3) 1 128 := ⟨by decide +kernel, rfl⟩
theorem eX12_compress32_128 : vD cX12_compress32 128 (.bipush 18) 2 130 := ⟨by decide +kernel, rfl⟩
theorem eX12_compress32_130 : vD cX12_compress32 130 (.invokestatic 224) 3 133 := ⟨by decide +kernel, rfl⟩
theorem eX12_compress32_133 : vD cX12_compress32 133 .ixor 1 134 := ⟨by decide +kernel, rfl⟩
theorem eX12_compress32_134 : vD cX12_compress32 134 (.iload_n 3) 1 135 := ⟨by decide +kernel, rfl⟩
theorem eX12_compress32_135 : vD cX12_compress32 135 (.iconst 3) 1 136 := ⟨by decide +kernel, rfl⟩
theorem eX12_compress32_136 : vD cX12_compress32 136 .iushr 1 137 := ⟨by decide +kernel, rfl⟩
theorem eX12_compress32_137 : vD cX12_compress32 137 .ixor 1 138 := ⟨by decide +kernel, rfl⟩
theorem eX12_compress32_138 : vD cX12_compress32 138 .iadd 1 139 := ⟨by decide +kernel, rfl⟩
theorem eX12_compress32_139 : vD cX12_compress32 139 (.aload_n 0) 1 140 := ⟨by decide +kernel, rfl⟩
theorem eX12_compress32_140 : vD cX12_compress32 140 (.getfield 57) 3 143 := ⟨by decide +kernel, rfl⟩
theorem eX12_compress32_143 : vD cX12_compress32 143 (.iload_n 1) 1 144 := ⟨by decide +kernel, rfl⟩
theorem eX12_compress32_144 : vD cX12_compress32 144 (.bipush 16) 2 146 := ⟨by decide +kernel, rfl⟩
theorem eX12_compress32_146 : vD cX12_compress32 146 .isub 1 147 := ⟨by decide +kernel, rfl⟩
theorem eX12_compress32_147 : vD cX12_compress32 147 .laload 1 148 := ⟨by decide +kernel, rfl⟩
theorem eX12_compress32_148 : vD cX12_compress32 148 .l2i 1 149 := ⟨by decide +kernel, rfl⟩
theorem eX12_compress32_149 : vD cX12_compress32 149 .iadd 1 150 := ⟨by decide +kernel, rfl⟩
theorem eX12_compress32_150 : vD cX12_compress32 150 .i2l 1 151 := ⟨by decide +kernel, rfl⟩
theorem eX12_compress32_151 : vD cX12_compress32 151 .lastore 1 152 := ⟨by decide +kernel, rfl⟩
theorem eX12_compress32_152 : vD cX12_compress32 152 (.iinc 1 1) 3 155 := ⟨by decide +kernel, rfl⟩
theorem eX12_compress32_155 : vD cX12_compress32 155 (.goto (-95)) 3 158 := ⟨by decide +kernel, rfl⟩
theorem eX12_compress32_158 : vD cX12_compress32 158 (.aload_n 0) 1 159 := ⟨by decide +kernel, rfl⟩
theorem eX12_compress32_159 : vD cX12_compress32 159 (.getfield 48) 3 162 := ⟨by decide +kernel, rfl⟩
theorem eX12_compress32_162 : vD cX12_compress32 162 (.iconst 0) 1 163 := ⟨by decide +kernel, rfl⟩
theorem eX12_compress32_163 : vD cX12_compress32 163 .laload 1 164 := ⟨by decide +kernel, rfl⟩
theorem eX12_compress32_164 : vD cX12_compress32 164 .l2i 1 165 := ⟨by decide +kernel, rfl⟩
theorem eX12_compress32_165 : vD cX12_compress32 165 (.istore_n 1) 1 166 := ⟨by decide +kernel, rfl⟩
theorem eX12_compress32_166 : vD cX12_compress32 166 (.aload_n 0) 1 167 := ⟨by decide +kernel, rfl⟩
theorem eX12_compress32_167 : vD cX12_compress32 167 (.getfield 48) 3 170 := ⟨by decide +kernel, rfl⟩
theorem eX12_compress32_170 : vD cX12_compress32 170 (.iconst 1) 1 171 := ⟨by decide +kernel, rfl⟩
theorem eX12_compress32_171 : vD cX12_compress32 171 .laload 1 172 := ⟨by decide +kernel, rfl⟩
theorem eX12_compress32_172 : vD cX12_compress32 172 .l2i 1 173 := ⟨by decide +kernel, rfl⟩
theorem eX12_compress32_173 : vD cX12_compress32 173 (.istore_n 2) 1 174 := ⟨by decide +kernel, rfl⟩
theorem eX12_compress32_174 : vD cX12_compress32 174 (.aload_n 0) 1 175 := ⟨by decide +kernel, rfl⟩
theorem eX12_compress32_175 : vD cX12_compress32 175 (.getfield 48) 3 178 := ⟨by decide +kernel, rfl⟩
theorem eX12_compress32_178 : vD cX12_compress32 178 (.iconst 2) 1 179 := ⟨by decide +kernel, rfl⟩
theorem eX12_compress32_179 : vD cX12_compress32 179 .laload 1 180 := ⟨by decide +kernel, rfl⟩
theorem eX12_compress32_180 : vD cX12_compress32 180 .l2i 1 181 := ⟨by decide +kernel, rfl⟩
theorem eX12_compress32_181 : vD cX12_compress32 181 (.istore_n 3) 1 182 := ⟨by decide +kernel, rfl⟩
theorem eX12_compress32_182 : vD cX12_compress32 182 (.aload_n 0) 1 183 := ⟨by decide +kernel, rfl⟩
theorem eX12_compress32_183 : vD cX12_compress32 183 (.getfield 48) 3 186 := ⟨by decide +kernel, rfl⟩
theorem eX12_compress32_186 : vD cX12_compress32 186 (.iconst 3) 1 187 := ⟨by decide +kernel, rfl⟩
theorem eX12_compress32_187 : vD cX12_compress32 187 .laload 1 188 := ⟨by decide +kernel, rfl⟩
theorem eX12_compress32_188 : vD cX12_compress32 188 .l2i 1 189 := ⟨by decide +kernel, rfl⟩
theorem eX12_compress32_189 : vD cX12_compress32 189 (.istore 4) 2 191 := ⟨by decide +kernel, rfl⟩
theorem eX12_compress32_191 : vD cX12_compress32 191 (.aload_n 0) 1 192 := ⟨by decide +kernel, rfl⟩
theorem eX12_compress32_192 : vD cX12_compress32 192 (.getfield 48) 3 195 := ⟨by decide +kernel, rfl⟩
theorem eX12_compress32_195 : vD cX12_compress32 195 (.iconst 4) 1 196 := ⟨by decide +kernel, rfl⟩
theorem eX12_compress32_196 : vD cX12_compress32 196 .laload 1 197 := ⟨by decide +kernel, rfl⟩
theorem eX12_compress32_197 : vD cX12_compress32 197 .l2i 1 198 := ⟨by decide +kernel, rfl⟩
theorem eX12_compress32_198 : vD cX12_compress32 198 (.istore 5) 2 200 := ⟨by decide +kernel, rfl⟩
theorem eX12_compress32_200 : vD cX12_compress32 200 (.aload_n 0) 1 201 := ⟨by decide +kernel, rfl⟩
theorem eX12_compress32_201 : vD cX12_compress32 201 (.getfield 48) 3 204 := ⟨by decide +kernel, rfl⟩
theorem eX12_compress32_204 : vD cX12_compress32 204 (.iconst 5) 1 205 := ⟨by decide +kernel, rfl⟩
theorem eX12_compress32_205 : vD cX12_compress32 205 .laload 1 206 := ⟨by decide +kernel, rfl⟩
theorem eX12_compress32_206 : vD cX12_compress32 206 .l2i 1 207 := ⟨by decide +kernel, rfl⟩
theorem eX12_compress32_207 : vD cX12_compress32 207 (.istore 6) 2 209 := ⟨by decide +kernel, rfl⟩
theorem eX12_compress32_209 : vD cX12_compress32 209 (.aload_n 0) 1 210 := ⟨by decide +kernel, rfl⟩
theorem eX12_compress32_210 : vD cX12_compress32 210 (.getfield 48) 3 213 := ⟨by decide +kernel, rfl⟩
theorem eX12_compress32_213 : vD cX12_compress32 213 (.bipush 6) 2 215 := ⟨by decide +kernel, rfl⟩
theorem eX12_compress32_215 : vD cX12_compress32 215 .laload 1 216 := ⟨by decide +kernel, rfl⟩
theorem eX12_compress32_216 : vD cX12_compress32 216 .l2i 1 217 := ⟨by decide +kernel, rfl⟩
theorem eX12_compress32_217 : vD cX12_compress32 217 (.istore 7) 2 219 := ⟨by decide +kernel, rfl⟩
theorem eX12_compress32_219 : vD cX12_compress32 219 (.aload_n 0) 1 220 := ⟨by decide +kernel, rfl⟩
theorem eX12_compress32_220 : vD cX12_compress32 220 (.getfield 48) 3 223 := ⟨by decide +kernel, rfl⟩
theorem eX12_compress32_223 : vD cX12_compress32 223 (.bipush 7) 2 225 := ⟨by decide +kernel, rfl⟩
theorem eX12_compress32_225 : vD cX12_compress32 225 .laload 1 226 := ⟨by decide +kernel, rfl⟩
theorem eX12_compress32_226 : vD cX12_compress32 226 .l2i 1 227 := ⟨by decide +kernel, rfl⟩
theorem eX12_compress32_227 : vD cX12_compress32 227 (.istore 8) 2 229 := ⟨by decide +kernel, rfl⟩
theorem eX12_compress32_229 : vD cX12_compress32 229 (.iconst 0) 1 230 := ⟨by decide +kernel, rfl⟩
theorem eX12_compress32_230 : vD cX12_compress32 230 (.istore 9) 2 232 := ⟨by decide +kernel, rfl⟩
theorem eX12_compress32_232 : vD cX12_compress32 232 (.iload 9) 2 234 := ⟨by decide +kernel, rfl⟩
theorem eX12_compress32_234 : vD cX12_compress32 234 (.bipush 64) 2 236 := ⟨by decide +kernel, rfl⟩
theorem eX12_compress32_236 : vD cX12_compress32 236 (.if_icmp .ge 137) 3 239 := ⟨by decide +kernel, rfl⟩
theorem eX12_compress32_239 : vD cX12_compress32 239 (.iload 8) 2 241 := ⟨by decide +kernel, rfl⟩
theorem eX12_compress32_241 : vD cX12_compress32 241 (.iload 5) 2 243 := ⟨by decide +kernel, rfl⟩
theorem eX12_compress32_243 : vD cX12_compress32 243 (.bipush 6) 2 245 := ⟨by decide +kernel, rfl⟩
theorem eX12_compress32_245 : vD cX12_compress32 245 (.invokestatic 224) 3 248 := ⟨by decide +kernel, rfl⟩
theorem eX12_compress32_248 : vD cX12_compress32 248 (.iload 5) 2 250 := ⟨by decide +kernel, rfl⟩
theorem eX12_compress32_250 : vD cX12_compress32 250 (.bipush 11) 2 252 := ⟨by decide +kernel, rfl⟩
theorem eX12_compress32_252 : vD cX12_compress32 252 (.invokestatic 224) 3 255 := ⟨by decide +kernel, rfl⟩
theorem eX12_compress32_255 : vD cX12_compress32 255 .ixor 1 256 := ⟨by decide +kernel, rfl⟩
theorem eX12_compress32_256 : vD cX12_compress32 256 (.iload 5) 2 258 := ⟨by decide +kernel, rfl⟩
theorem eX12_compress32_258 : vD cX12_compress32 258 (.bipush 25) 2 260 := ⟨by decide +kernel, rfl⟩
theorem eX12_compress32_260 : vD cX12_compress32 260 (.invokestatic 224) 3 263 := ⟨by decide +kernel, rfl⟩
theorem eX12_compress32_263 : vD cX12_compress32 263 .ixor 1 264 := ⟨by decide +kernel, rfl⟩
theorem eX12_compress32_264 : vD cX12_compress32 264 .iadd 1 265 := ⟨by decide +kernel, rfl⟩
theorem eX12_compress32_265 : vD cX12_compress32 265 (.iload 5) 2 267 := ⟨by decide +kernel, rfl⟩
theorem eX12_compress32_267 : vD cX12_compress32 267 (.iload 6) 2 269 := ⟨by decide +kernel, rfl⟩
theorem eX12_compress32_269 : vD cX12_compress32 269 .iand 1 270 := ⟨by decide +kernel, rfl⟩
theorem eX12_compress32_270 : vD cX12_compress32 270 (.iload 5) 2 272 := ⟨by decide +kernel, rfl⟩
theorem eX12_compress32_272 : vD cX12_compress32 272 (.iconst (-1)) 1 273 := ⟨by decide +kernel, rfl⟩
theorem eX12_compress32_273 : vD cX12_compress32 273 .ixor 1 274 := ⟨by decide +kernel, rfl⟩
theorem eX12_compress32_274 : vD cX12_compress32 274 (.iload 7) 2 276 := ⟨by decide +kernel, rfl⟩
theorem eX12_compress32_276 : vD cX12_compress32 276 .iand 1 277 := ⟨by decide +kernel, rfl⟩
theorem eX12_compress32_277 : vD cX12_compress32 277 .ixor 1 278 := ⟨by decide +kernel, rfl⟩
theorem eX12_compress32_278 : vD cX12_compress32 278 .iadd 1 279 := ⟨by decide +kernel, rfl⟩
theorem eX12_compress32_279 : vD cX12_compress32 279 (.aload_n 0) 1 280 := ⟨by decide +kernel, rfl⟩
theorem eX12_compress32_280 : vD cX12_compress32 280 (.getfield 27) 3 283 := ⟨by decide +kernel, rfl⟩
theorem eX12_compress32_283 : vD cX12_compress32 283 (.iload 9) 2 285 := ⟨by decide +kernel, rfl⟩
theorem eX12_compress32_285 : vD cX12_compress32 285 .laload 1 286 := ⟨by decide +kernel, rfl⟩
theorem eX12_compress32_286 : vD cX12_compress32 286 (.bipush 32) 2 288 := ⟨by decide +kernel, rfl⟩
theorem eX12_compress32_288 : vD cX12_compress32 288 .lushr 1 289 := ⟨by decide +kernel, rfl⟩
theorem eX12_compress32_289 : vD cX12_compress32 289 .l2i 1 290 := ⟨by decide +kernel, rfl⟩
theorem eX12_compress32_290 : vD cX12_compress32 290 .iadd 1 291 := ⟨by decide +kernel, rfl⟩
theorem eX12_compress32_291 : vD cX12_compress32 291 (.aload_n 0) 1 292 := ⟨by decide +kernel, rfl⟩
theorem eX12_compress32_292 : vD cX12_compress32 292 (.getfield 57) 3 295 := ⟨by decide +kernel, rfl⟩
theorem eX12_compress32_295 : vD cX12_compress32 295 (.iload 9) 2 297 := ⟨by decide +kernel, rfl⟩
theorem eX12_compress32_297 : vD cX12_compress32 297 .laload 1 298 := ⟨by decide +kernel, rfl⟩
theorem eX12_compress32_298 : vD cX12_compress32 298 .l2i 1 299 := ⟨by decide +kernel, rfl⟩
theorem eX12_compress32_299 : vD cX12_compress32 299 .iadd 1 300 := ⟨by decide +kernel, rfl⟩
theorem eX12_compress32_300 : vD cX12_compress32 300 (.istore 10) 2 302 := ⟨by decide +kernel, rfl⟩
theorem eX12_compress32_302 : vD cX12_compress32 302 (.iload_n 1) 1 303 := ⟨by decide +kernel, rfl⟩
theorem eX12_compress32_303 : vD cX12_compress32 303 (.iconst 2) 1 304 := ⟨by decide +kernel, rfl⟩
theorem eX12_compress32_304 : vD cX12_compress32 304 (.invokestatic 224) 3 307 := ⟨by decide +kernel, rfl⟩
theorem eX12_compress32_307 : vD cX12_compress32 307 (.iload_n 1) 1 308 := ⟨by decide +kernel, rfl⟩
theorem eX12_compress32_308 : vD cX12_compress32 308 (.bipush 13) 2 310 := ⟨by decide +kernel, rfl⟩
theorem eX12_compress32_310 : vD cX12_compress32 310 (.invokestatic 224) 3 313 := ⟨by decide +kernel, rfl⟩
theorem eX12_compress32_313 : vD cX12_compress32 313 .ixor 1 314 := ⟨by decide +kernel, rfl⟩
theorem eX12_compress32_314 : vD cX12_compress32 314 (.iload_n 1) 1 315 := ⟨by decide +kernel, rfl⟩
theorem eX12_compress32_315 : vD cX12_compress32 315 (.bipush 22) 2 317 := ⟨by decide +kernel, rfl⟩
theorem eX12_compress32_317 : vD cX12_compress32 317 (.invokestatic 224) 3 320 := ⟨by decide +kernel, rfl⟩
theorem eX12_compress32_320 : vD cX12_compress32 320 .ixor 1 321 := ⟨by decide +kernel, rfl⟩
theorem eX12_compress32_321 : vD cX12_compress32 321 (.iload_n 1) 1 322 := ⟨by decide +kernel, rfl⟩
theorem eX12_compress32_322 : vD cX12_compress32 322 (.iload_n 2) 1 323 := ⟨by decide +kernel, rfl⟩
theorem eX12_compress32_323 : vD cX12_compress32 323 .iand 1 324 := ⟨by decide +kernel, rfl⟩
theorem eX12_compress32_324 : vD cX12_compress32 324 (.iload_n 1) 1 325 := ⟨by decide +kernel, rfl⟩
theorem eX12_compress32_325 : vD cX12_compress32 325 (.iload_n 3) 1 326 := ⟨by decide +kernel, rfl⟩
theorem eX12_compress32_326 : vD cX12_compress32 326 .iand 1 327 := ⟨by decide +kernel, rfl⟩
theorem eX12_compress32_327 : vD cX12_compress32 327 .ixor 1 328 := ⟨by decide +kernel, rfl⟩
theorem eX12_compress32_328 : vD cX12_compress32 328 (.iload_n 2) 1 329 := ⟨by decide +kernel, rfl⟩
theorem eX12_compress32_329 : vD cX12_compress32 329 (.iload_n 3) 1 330 := ⟨by decide +kernel, rfl⟩
theorem eX12_compress32_330 : vD cX12_compress32 330 .iand 1 331 := ⟨by decide +kernel, rfl⟩
theorem eX12_compress32_331 : vD cX12_compress32 331 .ixor 1 332 := ⟨by decide +kernel, rfl⟩
theorem eX12_compress32_332 : vD cX12_compress32 332 .iadd 1 333 := ⟨by decide +kernel, rfl⟩
theorem eX12_compress32_333 : vD cX12_compress32 333 (.istore 11) 2 335 := ⟨by decide +kernel, rfl⟩
theorem eX12_compress32_335 : vD cX12_compress32 335 (.iload 7) 2 337 := ⟨by decide +kernel, rfl⟩
theorem eX12_compress32_337 : vD cX12_compress32 337 (.istore 8) 2 339 := ⟨by decide +kernel, rfl⟩
theorem eX12_compress32_339 : vD cX12_compress32 339 (.iload 6) 2 341 := ⟨by decide +kernel, rfl⟩
theorem eX12_compress32_341 : vD cX12_compress32 341 (.istore 7) 2 343 := ⟨by decide +kernel, rfl⟩
theorem eX12_compress32_343 : vD cX12_compress32 343 (.iload 5) 2 345 := ⟨by decide +kernel, rfl⟩
theorem eX12_compress32_345 : vD cX12_compress32 345 (.istore 6) 2 347 := ⟨by decide +kernel, rfl⟩
theorem eX12_compress32_347 : vD cX12_compress32 347 (.iload 4) 2 349 := ⟨by decide +kernel, rfl⟩
theorem eX12_compress32_349 : vD cX12_compress32 349 (.iload 10) 2 351 := ⟨by decide +kernel, rfl⟩
theorem eX12_compress32_351 : vD cX12_compress32 351 .iadd 1 352 := ⟨by decide +kernel, rfl⟩
theorem eX12_compress32_352 : vD cX12_compress32 352 (.istore 5) 2 354 := ⟨by decide +kernel, rfl⟩
theorem eX12_compress32_354 : vD cX12_compress32 354 (.iload_n 3) 1 355 := ⟨by decide +kernel, rfl⟩
theorem eX12_compress32_355 : vD cX12_compress32 355 (.istore 4) 2 357 := ⟨by decide +kernel, rfl⟩
theorem eX12_compress32_357 : vD cX12_compress32 357 (.iload_n 2) 1 358 := ⟨by decide +kernel, rfl⟩
theorem eX12_compress32_358 : vD cX12_compress32 358 (.istore_n 3) 1 359 := ⟨by decide +kernel, rfl⟩
theorem eX12_compress32_359 : vD cX12_compress32 359 (.iload_n 1) 1 360 := ⟨by decide +kernel, rfl⟩
theorem eX12_compress32_360 : vD cX12_compress32 360 (.istore_n 2) 1 361 := ⟨by decide +kernel, rfl⟩
theorem eX12_compress32_361 : vD cX12_compress32 361 (.iload 10) 2 363 := ⟨by decide +kernel, rfl⟩
theorem eX12_compress32_363 : vD cX12_compress32 363 (.iload 11) 2 365 := ⟨by decide +kernel, rfl⟩
theorem eX12_compress32_365 : vD cX12_compress32 365 .iadd 1 366 := ⟨by decide +kernel, rfl⟩
theorem eX12_compress32_366 : vD cX12_compress32 366 (.istore_n 1) 1 367 := ⟨by decide +kernel, rfl⟩
theorem eX12_compress32_367 : vD cX12_compress32 367 (.iinc 9 1) 3 370 := ⟨by decide +kernel, rfl⟩
theorem eX12_compress32_370 : vD cX12_compress32 370 (.goto (-138)) 3 373 := ⟨by decide +kernel, rfl⟩
theorem eX12_compress32_373 : vD cX12_compress32 373 (.aload_n 0) 1 374 := ⟨by decide +kernel, rfl⟩
theorem eX12_compress32_374 : vD cX12_compress32 374 (.getfield 48) 3 377 := ⟨by decide +kernel, rfl⟩
theorem eX12_compress32_377 : vD cX12_compress32 377 (.iconst 0) 1 378 := ⟨by decide +kernel, rfl⟩
theorem eX12_compress32_378 : vD cX12_compress32 378 .dup2 1 379 := ⟨by decide +kernel, rfl⟩
theorem eX12_compress32_379 : vD cX12_compress32 379 .laload 1 380 := ⟨by decide +kernel, rfl⟩
theorem eX12_compress32_380 : vD cX12_compress32 380 (.iload_n 1) 1 381 := ⟨by decide +kernel, rfl⟩
theorem eX12_compress32_381 : vD cX12_compress32 381 .i2l 1 382 := ⟨by decide +kernel, rfl⟩
theorem eX12_compress32_382 : vD cX12_compress32 382 .ladd 1 383 := ⟨by decide +kernel, rfl⟩
theorem eX12_compress32_383 : vD cX12_compress32 383 .lastore 1 384 := ⟨by decide +kernel, rfl⟩
theorem eX12_compress32_384 : vD cX12_compress32 384 (.aload_n 0) 1 385 := ⟨by decide +kernel, rfl⟩
theorem eX12_compress32_385 : vD cX12_compress32 385 (.getfield 48) 3 388 := ⟨by decide +kernel, rfl⟩
theorem eX12_compress32_388 : vD cX12_compress32 388 (.iconst 1) 1 389 := ⟨by decide +kernel, rfl⟩
theorem eX12_compress32_389 : vD cX12_compress32 389 .dup2 1 390 := ⟨by decide +kernel, rfl⟩
theorem eX12_compress32_390 : vD cX12_compress32 390 .laload 1 391 := ⟨by decide +kernel, rfl⟩
theorem eX12_compress32_391 : vD cX12_compress32 391 (.iload_n 2) 1 392 := ⟨by decide +kernel, rfl⟩
theorem eX12_compress32_392 : vD cX12_compress32 392 .i2l 1 393 := ⟨by decide +kernel, rfl⟩
theorem eX12_compress32_393 : vD cX12_compress32 393 .ladd 1 394 := ⟨by decide +kernel, rfl⟩
theorem eX12_compress32_394 : vD cX12_compress32 394 .lastore 1 395 := ⟨by decide +kernel, rfl⟩
theorem eX12_compress32_395 : vD cX12_compress32 395 (.aload_n 0) 1 396 := ⟨by decide +kernel, rfl⟩
theorem eX12_compress32_396 : vD cX12_compress32 396 (.getfield 48) 3 399 := ⟨by decide +kernel, rfl⟩
theorem eX12_compress32_399 : vD cX12_compress32 399 (.iconst 2) 1 400 := ⟨by decide +kernel, rfl⟩
theorem eX12_compress32_400 : vD cX12_compress32 400 .dup2 1 401 := ⟨by decide +kernel, rfl⟩
theorem eX12_compress32_401 : vD cX12_compress32 401 .laload 1 402 := ⟨by decide +kernel, rfl⟩
theorem eX12_compress32_402 : vD cX12_compress32 402 (.iload_n 3) 1 403 := ⟨by decide +kernel, rfl⟩
theorem eX12_compress32_403 : vD cX12_compress32 403 .i2l 1 404 := ⟨by decide +kernel, rfl⟩
theorem eX12_compress32_404 : vD cX12_compress32 404 .ladd 1 405 := ⟨by decide +kernel, rfl⟩
theorem eX12_compress32_405 : vD cX12_compress32 405 .lastore 1 406 := ⟨by decide +kernel, rfl⟩
theorem eX12_compress32_406 : vD cX12_compress32 406 (.aload_n 0) 1 407 := ⟨by decide +kernel, rfl⟩
theorem eX12_compress32_407 : vD cX12_compress32 407 (.getfield 48) 3 410 := ⟨by decide +kernel, rfl⟩
theorem eX12_compress32_410 : vD cX12_compress32 410 (.iconst 3) 1 411 := ⟨by decide +kernel, rfl⟩
theorem eX12_compress32_411 : vD cX12_compress32 411 .dup2 1 412 := ⟨by decide +kernel, rfl⟩
theorem eX12_compress32_412 : vD cX12_compress32 412 .laload 1 413 := ⟨by decide +kernel, rfl⟩
theorem eX12_compress32_413 : vD cX12_compress32 413 (.iload 4) 2 415 := ⟨by decide +kernel, rfl⟩
theorem eX12_compress32_415 : vD cX12_compress32 415 .i2l 1 416 := ⟨by decide +kernel, rfl⟩
theorem eX12_compress32_416 : vD cX12_compress32 416 .ladd 1 417 := ⟨by decide +kernel, rfl⟩
theorem eX12_compress32_417 : vD cX12_compress32 417 .lastore 1 418 := ⟨by decide +kernel, rfl⟩
theorem eX12_compress32_418 : vD cX12_compress32 418 (.aload_n 0) 1 419 := ⟨by decide +kernel, rfl⟩
theorem eX12_compress32_419 : vD cX12_compress32 419 (.getfield 48) 3 422 := ⟨by decide +kernel, rfl⟩
theorem eX12_compress32_422 : vD cX12_compress32 422 (.iconst 4) 1 423 := ⟨by decide +kernel, rfl⟩
theorem eX12_compress32_423 : vD cX12_compress32 423 .dup2 1 424 := ⟨by decide +kernel, rfl⟩
theorem eX12_compress32_424 : vD cX12_compress32 424 .laload 1 425 := ⟨by decide +kernel, rfl⟩
theorem eX12_compress32_425 : vD cX12_compress32 425 (.iload 5) 2 427 := ⟨by decide +kernel, rfl⟩
theorem eX12_compress32_427 : vD cX12_compress32 427 .i2l 1 428 := ⟨by decide +kernel, rfl⟩
theorem eX12_compress32_428 : vD cX12_compress32 428 .ladd 1 429 := ⟨by decide +kernel, rfl⟩
theorem eX12_compress32_429 : vD cX12_compress32 429 .lastore 1 430 := ⟨by decide +kernel, rfl⟩
theorem eX12_compress32_430 : vD cX12_compress32 430 (.aload_n 0) 1 431 := ⟨by decide +kernel, rfl⟩
theorem eX12_compress32_431 : vD cX12_compress32 431 (.getfield 48) 3 434 := ⟨by decide +kernel, rfl⟩
theorem eX12_compress32_434 : vD cX12_compress32 434 (.iconst 5) 1 435 := ⟨by decide +kernel, rfl⟩
theorem eX12_compress32_435 : vD cX12_compress32 435 .dup2 1 436 := ⟨by decide +kernel, rfl⟩
theorem eX12_compress32_436 : vD cX12_compress32 436 .laload 1 437 := ⟨by decide +kernel, rfl⟩
theorem eX12_compress32_437 : vD cX12_compress32 437 (.iload 6) 2 439 := ⟨by decide +kernel, rfl⟩
theorem eX12_compress32_439 : vD cX12_compress32 439 .i2l 1 440 := ⟨by decide +kernel, rfl⟩
theorem eX12_compress32_440 : vD cX12_compress32 440 .ladd 1 441 := ⟨by decide +kernel, rfl⟩
theorem eX12_compress32_441 : vD cX12_compress32 441 .lastore 1 442 := ⟨by decide +kernel, rfl⟩
theorem eX12_compress32_442 : vD cX12_compress32 442 (.aload_n 0) 1 443 := ⟨by decide +kernel, rfl⟩
theorem eX12_compress32_443 : vD cX12_compress32 443 (.getfield 48) 3 446 := ⟨by decide +kernel, rfl⟩
theorem eX12_compress32_446 : vD cX12_compress32 446 (.bipush 6) 2 448 := ⟨by decide +kernel, rfl⟩
theorem eX12_compress32_448 : vD cX12_compress32 448 .dup2 1 449 := ⟨by decide +kernel, rfl⟩
theorem eX12_compress32_449 : vD cX12_compress32 449 .laload 1 450 := ⟨by decide +kernel, rfl⟩
theorem eX12_compress32_450 : vD cX12_compress32 450 (.iload 7) 2 452 := ⟨by decide +kernel, rfl⟩
theorem eX12_compress32_452 : vD cX12_compress32 452 .i2l 1 453 := ⟨by decide +kernel, rfl⟩
theorem eX12_compress32_453 : vD cX12_compress32 453 .ladd 1 454 := ⟨by decide +kernel, rfl⟩
theorem eX12_compress32_454 : vD cX12_compress32 454 .lastore 1 455 := ⟨by decide +kernel, rfl⟩
theorem eX12_compress32_455 : vD cX12_compress32 455 (.aload_n 0) 1 456 := ⟨by decide +kernel, rfl⟩
theorem eX12_compress32_456 : vD cX12_compress32 456 (.getfield 48) 3 459 := ⟨by decide +kernel, rfl⟩
theorem eX12_compress32_459 : vD cX12_compress32 459 (.bipush 7) 2 461 := ⟨by decide +kernel, rfl⟩
theorem eX12_compress32_461 : vD cX12_compress32 461 .dup2 1 462 := ⟨by decide +kernel, rfl⟩
theorem eX12_compress32_462 : vD cX12_compress32 462 .laload 1 463 := ⟨by decide +kernel, rfl⟩
theorem eX12_compress32_463 : vD cX12_compress32 463 (.iload 8) 2 465 := ⟨by decide +kernel, rfl⟩
theorem eX12_compress32_465 : vD cX12_compress32 465 .i2l 1 466 := ⟨by decide +kernel, rfl⟩
theorem eX12_compress32_466 : vD cX12_compress32 466 .ladd 1 467 := ⟨by decide +kernel, rfl⟩
theorem eX12_compress32_467 : vD cX12_compress32 467 .lastore 1 468 := ⟨by decide +kernel, rfl⟩
theorem eX12_compress32_468 : vD cX12_compress32 468 .return_ 1 469 := ⟨by decide +kernel, rfl⟩

abbrev q32 : Type := Int32 × Int32 × Int32 × Int32 × Int32 × Int32 × Int32 × Int32
def q32g (q : q32) (i : Nat) : Int32 := match i with
  | 0 => q.1 | 1 => q.2.1 | 2 => q.2.2.1 | 3 => q.2.2.2.1 | 4 => q.2.2.2.2.1 | 5 => q.2.2.2.2.2.1 | 6 => q.2.2.2.2.2.2.1 | _ => q.2.2.2.2.2.2.2
def us32 (x n : Int32) : Int32 := (x.toUInt32 >>> (n.toUInt32 &&& Int32.toUInt32 31)).toInt32
def c32v (Bk : Nat → Int32) (i n : Nat) : Int32 := itN (fun k v => (v <<< ((8 : Int32) &&& 31)) ||| (Bk (4 * i + k) &&& 255)) n 0
def c32L (Bk : Nat → Int32) (n : Nat) (w : Nat → Int64) : Nat → Int64 := itN (fun i w => vp_updL w i (c32v Bk i 4).toInt64) n w
def c32X1 (i : Nat) (w : Nat → Int64) : Nat → Int64 := vp_updL w i (((rtR (w (i - 2)).toInt32 17 ^^^ rtR (w (i - 2)).toInt32 19) ^^^ us32 (w (i - 2)).toInt32 10) + (w (i - 7)).toInt32 + ((rtR (w (i - 15)).toInt32 7 ^^^ rtR (w (i - 15)).toInt32 18) ^^^ us32 (w (i - 15)).toInt32 3) + (w (i - 16)).toInt32).toInt64
def c32X (n : Nat) (w : Nat → Int64) : Nat → Int64 := itN (fun j w => c32X1 (16 + j) w) n w
def c32x (K Wd : Nat → Int64) (i : Nat) (q : q32) : Int32 := match q with
  | (_, _, _, _, e, f, g, h) => h + ((rtR e 6 ^^^ rtR e 11) ^^^ rtR e 25) + ((e &&& f) ^^^ ((e ^^^ (-1)) &&& g)) + (us64 (K i) 32).toInt32 + (Wd i).toInt32
def c32y (q : q32) : Int32 := match q with
  | (a, b, c, _, _, _, _, _) => ((rtR a 2 ^^^ rtR a 13) ^^^ rtR a 22) + (((a &&& b) ^^^ (a &&& c)) ^^^ (b &&& c))
def c32R (K Wd : Nat → Int64) (i : Nat) (q : q32) : q32 := match q with
  | (a, b, c, d, e, f, g, h) => (c32x K Wd i (a, b, c, d, e, f, g, h) + c32y (a, b, c, d, e, f, g, h), a, b, c, d + c32x K Wd i (a, b, c, d, e, f, g, h), e, f, g)
def adA (v : Nat → Int64) (n : Nat) (S : Nat → Int64) : Nat → Int64 := itN (fun i S => vp_updL S i (S i + v i)) n S
def c32A (q : q32) (n : Nat) (S : Nat → Int64) : Nat → Int64 := adA (fun i => (q32g q i).toInt64) n S
def c32W (Bk : Nat → Int32) (w : Nat → Int64) : Nat → Int64 := c32X 48 (c32L Bk 16 w)
def c32I (S : Nat → Int64) : q32 := ((S 0).toInt32, (S 1).toInt32, (S 2).toInt32, (S 3).toInt32, (S 4).toInt32, (S 5).toInt32, (S 6).toInt32, (S 7).toInt32)
/-- SHA-256's compression: the state behind a block -/
def c32 (K : Nat → Int64) (Bk : Nat → Int32) (w S : Nat → Int64) : Nat → Int64 := c32A (itN (c32R K (c32W Bk w)) 64 (c32I S)) 8 S
section M3
variable {G : vG} {B : Nat} {l : Launch} {ad : Nat → Nat} {N : Nat}
set_option maxRecDepth 100000 in
set_option maxHeartbeats 4000000 in
theorem c32_1 (I : nI1 ad N) (hN : ∀ k, k < 74 → k < N) {σ : nS} {p : Program} {e : Env} {R : Room} {s : State} {m : MethodId} {args : Array Value} {below : List Frame} {meth : Method} {c : Code} {cells slots : Nat} {Q : State → Prop} (C : vC G B p m meth c cX12_compress32 12 none s args yX12_compress32.cls) {x : Nat → Int32} {t : Int64} {S w K : Nat → Int64} {Bk : Nat → Int32} (h49 : σ 49 = eO 9 (mO ad x t)) (h17 : σ 17 = eB G 128 Bk) (h6 : σ 6 = eJ G 80 K) (kk : V G B p l e R s m args below meth c 12 cells slots Q (nW ad N (va_up (va_up σ 13 (eJ G 25 S)) 16 (eJ G 80 (c32L Bk 16 w)))) 57 [(0, .ref (ad 49))] []) : V G B p l e R s m args below meth c 12 cells slots Q (nW ad N (va_up (va_up σ 13 (eJ G 25 S)) 16 (eJ G 80 w))) 0 [(0, .ref (ad 49))] [] := by
  refine v_iconst (v := (0 : Int32)) C eX12_compress32_0 (by decide) ?_
  refine v_istore_n (lv' := [(0, .ref (ad 49)), (1, .int ((0 : Int32)))]) C eX12_compress32_1 rfl (by decide) [1, 0] rfl ?_
  refine v_forV (fun i => va_up (va_up σ 13 (eJ G 25 S)) 16 (eJ G 80 (c32L Bk i w))) (fun i => [(0, .ref (ad 49)), (1, .int (nI i))]) 16 ?_ ?_
  · refine v_iload_n C eX12_compress32_2 rfl 1 rfl ?_
    refine v_bipush (v := (16 : Int32)) C eX12_compress32_3 (by decide) ?_
    refine v_icmp_ge (tgt := 57) C eX12_compress32_5 (by decide) (fun _ => ?_) (fun h => absurd (ix_le (a := 16) (b := 16) (rfl : (16 : Int32) = nI 16) (rfl : nI 16 = nI 16) (by omega) (by omega) (by omega)) h)
    refine v_pick (lv' := [(0, .ref (ad 49))]) [0] rfl ?_
    exact kk
  · intro i hi ihi
    refine v_iload_n C eX12_compress32_2 rfl 1 rfl ?_
    refine v_bipush (v := (16 : Int32)) C eX12_compress32_3 (by decide) ?_
    refine v_icmp_ge (tgt := 57) C eX12_compress32_5 (by decide) (fun h => absurd h (ix_nle (a := 16) (b := i) (rfl : (16 : Int32) = nI 16) (rfl : nI i = nI i) (by omega) (by omega) (by omega))) (fun _ => ?_)
    refine v_iconst (v := (0 : Int32)) C eX12_compress32_8 (by decide) ?_
    refine v_istore_n (lv' := [(0, .ref (ad 49)), (1, .int (nI i)), (2, .int ((0 : Int32)))]) C eX12_compress32_9 rfl (by decide) [1, 2, 0] rfl ?_
    refine v_iconst (v := (0 : Int32)) C eX12_compress32_10 (by decide) ?_
    refine v_istore_n (lv' := [(0, .ref (ad 49)), (1, .int (nI i)), (2, .int ((0 : Int32))), (3, .int ((0 : Int32)))]) C eX12_compress32_11 rfl (by decide) [1, 2, 3, 0] rfl ?_
    refine v_forV (fun k => va_up (va_up σ 13 (eJ G 25 S)) 16 (eJ G 80 (c32L Bk i w))) (fun k => [(0, .ref (ad 49)), (1, .int (nI i)), (2, .int (c32v Bk i k)), (3, .int (nI k))]) 4 ?_ ?_
    · refine v_iload_n C eX12_compress32_12 rfl 3 rfl ?_
      refine v_iconst (v := (4 : Int32)) C eX12_compress32_13 (by decide) ?_
      refine v_icmp_ge (tgt := 43) C eX12_compress32_14 (by decide) (fun _ => ?_) (fun h => absurd (ix_le (a := 4) (b := 4) (rfl : (4 : Int32) = nI 4) (rfl : nI 4 = nI 4) (by omega) (by omega) (by omega)) h)
      refine v_aload_n C eX12_compress32_43 rfl 0 rfl ?_
      refine n_get C I fX12_57_X12 eX12_compress32_44 (hN 49 (by decide)) h49 rfl ?_
      refine v_iload_n C eX12_compress32_47 rfl 1 rfl ?_
      refine v_iload_n C eX12_compress32_48 rfl 2 rfl ?_
      refine v_i2l C eX12_compress32_49 ?_
      refine n_last C I eX12_compress32_50 (hN 16 (by decide)) rfl i (rfl : nI i = nI i) (by omega) (by decide) ?_
      refine v_iinc (lv' := [(0, .ref (ad 49)), (1, .int (nI (i + 1))), (2, .int (c32v Bk i 4)), (3, .int (nI 4))]) C eX12_compress32_51 1 rfl (ix_inc _) (by decide) [1, 0, 2, 3] rfl ?_
      refine v_goto (tgt := 2) C eX12_compress32_54 (by decide) ?_
      refine v_eq (w' := nW ad N (va_up (va_up σ 13 (eJ G 25 S)) 16 (eJ G 80 (vp_updL (c32L Bk i w) i ((c32v Bk i 4).toInt64))))) (congrArg (nW ad N) (n_extL [13, 16] ⟨rfl, rfl, trivial⟩ (fun q h => by simp only [List.mem_cons, List.not_mem_nil, or_false, not_or] at h; simp [va_up, h]))) rfl rfl ?_
      refine v_pick (lv' := [(0, .ref (ad 49)), (1, .int (nI (i + 1)))]) [0, 1] rfl ?_
      exact ihi
    · intro k hk ihk
      refine v_iload_n C eX12_compress32_12 rfl 3 rfl ?_
      refine v_iconst (v := (4 : Int32)) C eX12_compress32_13 (by decide) ?_
      refine v_icmp_ge (tgt := 43) C eX12_compress32_14 (by decide) (fun h => absurd h (ix_nle (a := 4) (b := k) (rfl : (4 : Int32) = nI 4) (rfl : nI k = nI k) (by omega) (by omega) (by omega))) (fun _ => ?_)
      refine v_iload_n C eX12_compress32_17 rfl 2 rfl ?_
      refine v_bipush (v := (8 : Int32)) C eX12_compress32_18 (by decide) ?_
      refine v_ishl C eX12_compress32_20 ?_
      refine v_aload_n C eX12_compress32_21 rfl 0 rfl ?_
      refine n_get C I fX12_60_X12 eX12_compress32_22 (hN 49 (by decide)) h49 rfl ?_
      refine v_iconst (v := (4 : Int32)) C eX12_compress32_25 (by decide) ?_
      refine v_iload_n C eX12_compress32_26 rfl 1 rfl ?_
      refine v_imul C eX12_compress32_27 ?_
      refine v_iload_n C eX12_compress32_28 rfl 3 rfl ?_
      refine v_iadd C eX12_compress32_29 ?_
      refine n_bald C I eX12_compress32_30 (hN 17 (by decide)) h17 ((4 * i) + k) (ix_add (a := 4 * i) (b := k) (ix_mul (a := 4) (b := i) (rfl : (4 : Int32) = nI 4) (rfl : nI i = nI i)) (rfl : nI k = nI k)) (by omega) (by decide) ?_
      refine v_sipush (v := (255 : Int32)) C eX12_compress32_31 (by decide) ?_
      refine v_iand C eX12_compress32_34 ?_
      refine v_ior C eX12_compress32_35 ?_
      refine v_istore_n (lv' := [(0, .ref (ad 49)), (1, .int (nI i)), (2, .int (((c32v Bk i k) <<< (((8 : Int32)) &&& 31)) ||| ((Bk ((4 * i) + k)) &&& ((255 : Int32))))), (3, .int (nI k))]) C eX12_compress32_36 rfl (by decide) [1, 2, 0, 3] rfl ?_
      refine v_iinc (lv' := [(0, .ref (ad 49)), (1, .int (nI i)), (2, .int (((c32v Bk i k) <<< (((8 : Int32)) &&& 31)) ||| ((Bk ((4 * i) + k)) &&& ((255 : Int32))))), (3, .int (nI (k + 1)))]) C eX12_compress32_37 3 rfl (ix_inc _) (by decide) [1, 2, 3, 0] rfl ?_
      refine v_goto (tgt := 12) C eX12_compress32_40 (by decide) ?_
      exact ihk

set_option maxRecDepth 100000 in
set_option maxHeartbeats 4000000 in
theorem c32_2 (I : nI1 ad N) (hN : ∀ k, k < 74 → k < N) {σ : nS} {p : Program} {e : Env} {R : Room} {s : State} {m : MethodId} {args : Array Value} {below : List Frame} {meth : Method} {c : Code} {cells slots : Nat} {Q : State → Prop} (C : vC G B p m meth c cX12_compress32 12 none s args yX12_compress32.cls) {x : Nat → Int32} {t : Int64} {S w K : Nat → Int64} {Bk : Nat → Int32} (h49 : σ 49 = eO 9 (mO ad x t)) (h17 : σ 17 = eB G 128 Bk) (h6 : σ 6 = eJ G 80 K) {d1 mc1 ms1 : Nat} (hR : R = vRm d1 mc1 ms1) (hdd : 0 + 1 ≤ d1) (hrc : cells + 0 ≤ mc1) (hrs : slots + 0 ≤ ms1) (kk : V G B p l e R s m args below meth c 12 cells slots Q (nW ad N (va_up (va_up σ 13 (eJ G 25 S)) 16 (eJ G 80 (c32X 48 w)))) 158 [(0, .ref (ad 49))] []) : V G B p l e R s m args below meth c 12 cells slots Q (nW ad N (va_up (va_up σ 13 (eJ G 25 S)) 16 (eJ G 80 w))) 57 [(0, .ref (ad 49))] [] := by
  refine v_bipush (v := (16 : Int32)) C eX12_compress32_57 (by decide) ?_
  refine v_istore_n (lv' := [(0, .ref (ad 49)), (1, .int ((16 : Int32)))]) C eX12_compress32_59 rfl (by decide) [1, 0] rfl ?_
  refine v_forV (fun j => va_up (va_up σ 13 (eJ G 25 S)) 16 (eJ G 80 (c32X j w))) (fun j => [(0, .ref (ad 49)), (1, .int (nI (16 + j)))]) 48 ?_ ?_
  · refine v_iload_n C eX12_compress32_60 rfl 1 rfl ?_
    refine v_bipush (v := (64 : Int32)) C eX12_compress32_61 (by decide) ?_
    refine v_icmp_ge (tgt := 158) C eX12_compress32_63 (by decide) (fun _ => ?_) (fun h => absurd (ix_le (a := 64) (b := 16 + 48) (rfl : (64 : Int32) = nI 64) (rfl : nI (16 + 48) = nI (16 + 48)) (by omega) (by omega) (by omega)) h)
    refine v_pick (lv' := [(0, .ref (ad 49))]) [0] rfl ?_
    exact kk
  · intro j hj ihj
    refine v_iload_n C eX12_compress32_60 rfl 1 rfl ?_
    refine v_bipush (v := (64 : Int32)) C eX12_compress32_61 (by decide) ?_
    refine v_icmp_ge (tgt := 158) C eX12_compress32_63 (by decide) (fun h => absurd h (ix_nle (a := 64) (b := 16 + j) (rfl : (64 : Int32) = nI 64) (rfl : nI (16 + j) = nI (16 + j)) (by omega) (by omega) (by omega))) (fun _ => ?_)
    refine v_aload_n C eX12_compress32_66 rfl 0 rfl ?_
    refine n_get C I fX12_57_X12 eX12_compress32_67 (hN 49 (by decide)) h49 rfl ?_
    refine v_iload_n C eX12_compress32_70 rfl 1 rfl ?_
    refine v_iconst (v := (2 : Int32)) C eX12_compress32_71 (by decide) ?_
    refine v_isub C eX12_compress32_72 ?_
    refine n_lald C I eX12_compress32_73 (hN 16 (by decide)) rfl ((16 + j) - 2) (ix_sub (a := 16 + j) (b := 2) (rfl : nI (16 + j) = nI (16 + j)) (rfl : (2 : Int32) = nI 2) (by omega)) (by omega) (by decide) ?_
    refine v_l2i C eX12_compress32_74 ?_
    refine v_istore_n (lv' := [(0, .ref (ad 49)), (1, .int (nI (16 + j))), (2, .int (((c32X j w) ((16 + j) - 2)).toInt32))]) C eX12_compress32_75 rfl (by decide) [1, 2, 0] rfl ?_
    refine v_aload_n C eX12_compress32_76 rfl 0 rfl ?_
    refine n_get C I fX12_57_X12 eX12_compress32_77 (hN 49 (by decide)) h49 rfl ?_
    refine v_iload_n C eX12_compress32_80 rfl 1 rfl ?_
    refine v_bipush (v := (15 : Int32)) C eX12_compress32_81 (by decide) ?_
    refine v_isub C eX12_compress32_83 ?_
    refine n_lald C I eX12_compress32_84 (hN 16 (by decide)) rfl ((16 + j) - 15) (ix_sub (a := 16 + j) (b := 15) (rfl : nI (16 + j) = nI (16 + j)) (rfl : (15 : Int32) = nI 15) (by omega)) (by omega) (by decide) ?_
    refine v_l2i C eX12_compress32_85 ?_
    refine v_istore_n (lv' := [(0, .ref (ad 49)), (1, .int (nI (16 + j))), (2, .int (((c32X j w) ((16 + j) - 2)).toInt32)), (3, .int (((c32X j w) ((16 + j) - 15)).toInt32))]) C eX12_compress32_86 rfl (by decide) [1, 2, 3, 0] rfl ?_
    refine v_aload_n C eX12_compress32_87 rfl 0 rfl ?_
    refine n_get C I fX12_57_X12 eX12_compress32_88 (hN 49 (by decide)) h49 rfl ?_
    refine v_iload_n C eX12_compress32_91 rfl 1 rfl ?_
    refine v_iload_n C eX12_compress32_92 rfl 2 rfl ?_
    refine v_bipush (v := (17 : Int32)) C eX12_compress32_93 (by decide) ?_
    refine n_callS (av := [.int (((c32X j w) ((16 + j) - 2)).toInt32), .int ((17 : Int32))]) (rest := [.int (nI (16 + j)), .ref (ad 16)]) C mX12_224 (c_turn (((c32X j w) ((16 + j) - 2)).toInt32) ((17 : Int32))) hR hdd (by decide) ⟨hrc, hrs⟩ rfl rfl (Nat.le_of_ble_eq_true rfl) eX12_compress32_95 (fun r σ' hp => ?_)
    obtain ⟨rfl, rfl⟩ := hp
    refine v_iload_n C eX12_compress32_98 rfl 2 rfl ?_
    refine v_bipush (v := (19 : Int32)) C eX12_compress32_99 (by decide) ?_
    refine n_callS (av := [.int (((c32X j w) ((16 + j) - 2)).toInt32), .int ((19 : Int32))]) (rest := [.int (rtR (((c32X j w) ((16 + j) - 2)).toInt32) ((17 : Int32))), .int (nI (16 + j)), .ref (ad 16)]) C mX12_224 (c_turn (((c32X j w) ((16 + j) - 2)).toInt32) ((19 : Int32))) hR hdd (by decide) ⟨hrc, hrs⟩ rfl rfl (Nat.le_of_ble_eq_true rfl) eX12_compress32_101 (fun r σ' hp => ?_)
    obtain ⟨rfl, rfl⟩ := hp
    refine v_ixor C eX12_compress32_104 ?_
    refine v_iload_n C eX12_compress32_105 rfl 2 rfl ?_
    refine v_bipush (v := (10 : Int32)) C eX12_compress32_106 (by decide) ?_
    refine v_iushr C eX12_compress32_108 ?_
    refine v_ixor C eX12_compress32_109 ?_
    refine v_aload_n C eX12_compress32_110 rfl 0 rfl ?_
    refine n_get C I fX12_57_X12 eX12_compress32_111 (hN 49 (by decide)) h49 rfl ?_
    refine v_iload_n C eX12_compress32_114 rfl 1 rfl ?_
    refine v_bipush (v := (7 : Int32)) C eX12_compress32_115 (by decide) ?_
    refine v_isub C eX12_compress32_117 ?_
    refine n_lald C I eX12_compress32_118 (hN 16 (by decide)) rfl ((16 + j) - 7) (ix_sub (a := 16 + j) (b := 7) (rfl : nI (16 + j) = nI (16 + j)) (rfl : (7 : Int32) = nI 7) (by omega)) (by omega) (by decide) ?_
    refine v_l2i C eX12_compress32_119 ?_
    refine v_iadd C eX12_compress32_120 ?_
    refine v_iload_n C eX12_compress32_121 rfl 3 rfl ?_
    refine v_bipush (v := (7 : Int32)) C eX12_compress32_122 (by decide) ?_
    refine n_callS (av := [.int (((c32X j w) ((16 + j) - 15)).toInt32), .int ((7 : Int32))]) (rest := [.int ((((rtR (((c32X j w) ((16 + j) - 2)).toInt32) ((17 : Int32))) ^^^ (rtR (((c32X j w) ((16 + j) - 2)).toInt32) ((19 : Int32)))) ^^^ (((((c32X j w) ((16 + j) - 2)).toInt32).toUInt32 >>> (((10 : Int32)).toUInt32 &&& Int32.toUInt32 31)).toInt32)) + (((c32X j w) ((16 + j) - 7)).toInt32)), .int (nI (16 + j)), .ref (ad 16)]) C mX12_224 (c_turn (((c32X j w) ((16 + j) - 15)).toInt32) ((7 : Int32))) hR hdd (by decide) ⟨hrc, hrs⟩ rfl rfl (Nat.le_of_ble_eq_true rfl) eX12_compress32_124 (fun r σ' hp => ?_)
    obtain ⟨rfl, rfl⟩ := hp
    refine v_iload_n C eX12_compress32_127 rfl 3 rfl ?_
    refine v_bipush (v := (18 : Int32)) C eX12_compress32_128 (by decide) ?_
    refine n_callS (av := [.int (((c32X j w) ((16 + j) - 15)).toInt32), .int ((18 : Int32))]) (rest := [.int (rtR (((c32X j w) ((16 + j) - 15)).toInt32) ((7 : Int32))), .int ((((rtR (((c32X j w) ((16 + j) - 2)).toInt32) ((17 : Int32))) ^^^ (rtR (((c32X j w) ((16 + j) - 2)).toInt32) ((19 : Int32)))) ^^^ (((((c32X j w) ((16 + j) - 2)).toInt32).toUInt32 >>> (((10 : Int32)).toUInt32 &&& Int32.toUInt32 31)).toInt32)) + (((c32X j w) ((16 + j) - 7)).toInt32)), .int (nI (16 + j)), .ref (ad 16)]) C mX12_224 (c_turn (((c32X j w) ((16 + j) - 15)).toInt32) ((18 : Int32))) hR hdd (by decide) ⟨hrc, hrs⟩ rfl rfl (Nat.le_of_ble_eq_true rfl) eX12_compress32_130 (fun r σ' hp => ?_)
    obtain ⟨rfl, rfl⟩ := hp
    refine v_ixor C eX12_compress32_133 ?_
    refine v_iload_n C eX12_compress32_134 rfl 3 rfl ?_
    refine v_iconst (v := (3 : Int32)) C eX12_compress32_135 (by decide) ?_
    refine v_iushr C eX12_compress32_136 ?_
    refine v_ixor C eX12_compress32_137 ?_
    refine v_iadd C eX12_compress32_138 ?_
    refine v_aload_n C eX12_compress32_139 rfl 0 rfl ?_
    refine n_get C I fX12_57_X12 eX12_compress32_140 (hN 49 (by decide)) h49 rfl ?_
    refine v_iload_n C eX12_compress32_143 rfl 1 rfl ?_
    refine v_bipush (v := (16 : Int32)) C eX12_compress32_144 (by decide) ?_
    refine v_isub C eX12_compress32_146 ?_
    refine n_lald C I eX12_compress32_147 (hN 16 (by decide)) rfl ((16 + j) - 16) (ix_sub (a := 16 + j) (b := 16) (rfl : nI (16 + j) = nI (16 + j)) (rfl : (16 : Int32) = nI 16) (by omega)) (by omega) (by decide) ?_
    refine v_l2i C eX12_compress32_148 ?_
    refine v_iadd C eX12_compress32_149 ?_
    refine v_i2l C eX12_compress32_150 ?_
    refine n_last C I eX12_compress32_151 (hN 16 (by decide)) rfl (16 + j) (rfl : nI (16 + j) = nI (16 + j)) (by omega) (by decide) ?_
    refine v_iinc (lv' := [(0, .ref (ad 49)), (1, .int (nI (16 + j + 1))), (2, .int (((c32X j w) ((16 + j) - 2)).toInt32)), (3, .int (((c32X j w) ((16 + j) - 15)).toInt32))]) C eX12_compress32_152 1 rfl (ix_inc _) (by decide) [1, 0, 2, 3] rfl ?_
    refine v_goto (tgt := 60) C eX12_compress32_155 (by decide) ?_
    refine v_eq (w' := nW ad N (va_up (va_up σ 13 (eJ G 25 S)) 16 (eJ G 80 (vp_updL (c32X j w) (16 + j) (((((((rtR (((c32X j w) ((16 + j) - 2)).toInt32) ((17 : Int32))) ^^^ (rtR (((c32X j w) ((16 + j) - 2)).toInt32) ((19 : Int32)))) ^^^ (((((c32X j w) ((16 + j) - 2)).toInt32).toUInt32 >>> (((10 : Int32)).toUInt32 &&& Int32.toUInt32 31)).toInt32)) + (((c32X j w) ((16 + j) - 7)).toInt32)) + (((rtR (((c32X j w) ((16 + j) - 15)).toInt32) ((7 : Int32))) ^^^ (rtR (((c32X j w) ((16 + j) - 15)).toInt32) ((18 : Int32)))) ^^^ (((((c32X j w) ((16 + j) - 15)).toInt32).toUInt32 >>> (((3 : Int32)).toUInt32 &&& Int32.toUInt32 31)).toInt32))) + (((c32X j w) ((16 + j) - 16)).toInt32)).toInt64))))) (congrArg (nW ad N) (n_extL [13, 16] ⟨rfl, rfl, trivial⟩ (fun q h => by simp only [List.mem_cons, List.not_mem_nil, or_false, not_or] at h; simp [va_up, h]))) rfl rfl ?_
    refine v_pick (lv' := [(0, .ref (ad 49)), (1, .int (nI (16 + j + 1)))]) [0, 1] rfl ?_
    exact ihj

set_option maxRecDepth 100000 in
set_option maxHeartbeats 4000000 in
theorem c32_4 (I : nI1 ad N) (hN : ∀ k, k < 74 → k < N) {σ : nS} {p : Program} {e : Env} {R : Room} {s : State} {m : MethodId} {args : Array Value} {below : List Frame} {meth : Method} {c : Code} {cells slots : Nat} {Q : State → Prop} (C : vC G B p m meth c cX12_compress32 12 none s args yX12_compress32.cls) {x : Nat → Int32} {t : Int64} {S w K : Nat → Int64} {Bk : Nat → Int32} (h49 : σ 49 = eO 9 (mO ad x t)) (h17 : σ 17 = eB G 128 Bk) (h6 : σ 6 = eJ G 80 K) (i : Nat) (hi : i < 64) (a0 b0 c0 d0 e0 f0 g0 h0 : Int32) {d1 mc1 ms1 : Nat} (hR : R = vRm d1 mc1 ms1) (hdd : 0 + 1 ≤ d1) (hrc : cells + 0 ≤ mc1) (hrs : slots + 0 ≤ ms1) (kk : V G B p l e R s m args below meth c 12 cells slots Q (nW ad N (va_up (va_up σ 13 (eJ G 25 S)) 16 (eJ G 80 w))) 232 [(0, .ref (ad 49)), (1, .int ((c32R K w i (a0, b0, c0, d0, e0, f0, g0, h0)).1)), (2, .int ((c32R K w i (a0, b0, c0, d0, e0, f0, g0, h0)).2.1)), (3, .int ((c32R K w i (a0, b0, c0, d0, e0, f0, g0, h0)).2.2.1)), (4, .int ((c32R K w i (a0, b0, c0, d0, e0, f0, g0, h0)).2.2.2.1)), (5, .int ((c32R K w i (a0, b0, c0, d0, e0, f0, g0, h0)).2.2.2.2.1)), (6, .int ((c32R K w i (a0, b0, c0, d0, e0, f0, g0, h0)).2.2.2.2.2.1)), (7, .int ((c32R K w i (a0, b0, c0, d0, e0, f0, g0, h0)).2.2.2.2.2.2.1)), (8, .int ((c32R K w i (a0, b0, c0, d0, e0, f0, g0, h0)).2.2.2.2.2.2.2)), (9, .int (nI (i + 1)))] []) : V G B p l e R s m args below meth c 12 cells slots Q (nW ad N (va_up (va_up σ 13 (eJ G 25 S)) 16 (eJ G 80 w))) 239 [(0, .ref (ad 49)), (1, .int a0), (2, .int b0), (3, .int c0), (4, .int d0), (5, .int e0), (6, .int f0), (7, .int g0), (8, .int h0), (9, .int (nI i))] [] := by
  refine v_iload C eX12_compress32_239 8 rfl ?_
  refine v_iload C eX12_compress32_241 5 rfl ?_
  refine v_bipush (v := (6 : Int32)) C eX12_compress32_243 (by decide) ?_
  refine n_callS (av := [.int e0, .int ((6 : Int32))]) (rest := [.int h0]) C mX12_224 (c_turn e0 ((6 : Int32))) hR hdd (by decide) ⟨hrc, hrs⟩ rfl rfl (Nat.le_of_ble_eq_true rfl) eX12_compress32_245 (fun r σ' hp => ?_)
  obtain ⟨rfl, rfl⟩ := hp
  refine v_iload C eX12_compress32_248 5 rfl ?_
  refine v_bipush (v := (11 : Int32)) C eX12_compress32_250 (by decide) ?_
  refine n_callS (av := [.int e0, .int ((11 : Int32))]) (rest := [.int (rtR e0 ((6 : Int32))), .int h0]) C mX12_224 (c_turn e0 ((11 : Int32))) hR hdd (by decide) ⟨hrc, hrs⟩ rfl rfl (Nat.le_of_ble_eq_true rfl) eX12_compress32_252 (fun r σ' hp => ?_)
  obtain ⟨rfl, rfl⟩ := hp
  refine v_ixor C eX12_compress32_255 ?_
  refine v_iload C eX12_compress32_256 5 rfl ?_
  refine v_bipush (v := (25 : Int32)) C eX12_compress32_258 (by decide) ?_
  refine n_callS (av := [.int e0, .int ((25 : Int32))]) (rest := [.int ((rtR e0 ((6 : Int32))) ^^^ (rtR e0 ((11 : Int32)))), .int h0]) C mX12_224 (c_turn e0 ((25 : Int32))) hR hdd (by decide) ⟨hrc, hrs⟩ rfl rfl (Nat.le_of_ble_eq_true rfl) eX12_compress32_260 (fun r σ' hp => ?_)
  obtain ⟨rfl, rfl⟩ := hp
  refine v_ixor C eX12_compress32_263 ?_
  refine v_iadd C eX12_compress32_264 ?_
  refine v_iload C eX12_compress32_265 5 rfl ?_
  refine v_iload C eX12_compress32_267 6 rfl ?_
  refine v_iand C eX12_compress32_269 ?_
  refine v_iload C eX12_compress32_270 5 rfl ?_
  refine v_iconst (v := (-1 : Int32)) C eX12_compress32_272 (by decide) ?_
  refine v_ixor C eX12_compress32_273 ?_
  refine v_iload C eX12_compress32_274 7 rfl ?_
  refine v_iand C eX12_compress32_276 ?_
  refine v_ixor C eX12_compress32_277 ?_
  refine v_iadd C eX12_compress32_278 ?_
  refine v_aload_n C eX12_compress32_279 rfl 0 rfl ?_
  refine n_get C I fX12_27_X12 eX12_compress32_280 (hN 49 (by decide)) h49 rfl ?_
  refine v_iload C eX12_compress32_283 9 rfl ?_
  refine n_lald C I eX12_compress32_285 (hN 6 (by decide)) h6 i (rfl : nI i = nI i) (by omega) (by decide) ?_
  refine v_bipush (v := (32 : Int32)) C eX12_compress32_286 (by decide) ?_
  refine v_lushr C eX12_compress32_288 ?_
  refine v_l2i C eX12_compress32_289 ?_
  refine v_iadd C eX12_compress32_290 ?_
  refine v_aload_n C eX12_compress32_291 rfl 0 rfl ?_
  refine n_get C I fX12_57_X12 eX12_compress32_292 (hN 49 (by decide)) h49 rfl ?_
  refine v_iload C eX12_compress32_295 9 rfl ?_
  refine n_lald C I eX12_compress32_297 (hN 16 (by decide)) rfl i (rfl : nI i = nI i) (by omega) (by decide) ?_
  refine v_l2i C eX12_compress32_298 ?_
  refine v_iadd C eX12_compress32_299 ?_
  refine v_topi (fun t1 ht1 => ?_)
  refine v_istore (lv' := [(0, .ref (ad 49)), (1, .int a0), (2, .int b0), (3, .int c0), (4, .int d0), (5, .int e0), (6, .int f0), (7, .int g0), (8, .int h0), (9, .int (nI i)), (10, .int t1)]) C eX12_compress32_300 (by decide) [1, 2, 3, 4, 5, 6, 7, 8, 9, 10, 0] rfl ?_
  refine v_iload_n C eX12_compress32_302 rfl 1 rfl ?_
  refine v_iconst (v := (2 : Int32)) C eX12_compress32_303 (by decide) ?_
  refine n_callS (av := [.int a0, .int ((2 : Int32))]) (rest := []) C mX12_224 (c_turn a0 ((2 : Int32))) hR hdd (by decide) ⟨hrc, hrs⟩ rfl rfl (Nat.le_of_ble_eq_true rfl) eX12_compress32_304 (fun r σ' hp => ?_)
  obtain ⟨rfl, rfl⟩ := hp
  refine v_iload_n C eX12_compress32_307 rfl 1 rfl ?_
  refine v_bipush (v := (13 : Int32)) C eX12_compress32_308 (by decide) ?_
  refine n_callS (av := [.int a0, .int ((13 : Int32))]) (rest := [.int (rtR a0 ((2 : Int32)))]) C mX12_224 (c_turn a0 ((13 : Int32))) hR hdd (by decide) ⟨hrc, hrs⟩ rfl rfl (Nat.le_of_ble_eq_true rfl) eX12_compress32_310 (fun r σ' hp => ?_)
  obtain ⟨rfl, rfl⟩ := hp
  refine v_ixor C eX12_compress32_313 ?_
  refine v_iload_n C eX12_compress32_314 rfl 1 rfl ?_
  refine v_bipush (v := (22 : Int32)) C eX12_compress32_315 (by decide) ?_
  refine n_callS (av := [.int a0, .int ((22 : Int32))]) (rest := [.int ((rtR a0 ((2 : Int32))) ^^^ (rtR a0 ((13 : Int32))))]) C mX12_224 (c_turn a0 ((22 : Int32))) hR hdd (by decide) ⟨hrc, hrs⟩ rfl rfl (Nat.le_of_ble_eq_true rfl) eX12_compress32_317 (fun r σ' hp => ?_)
  obtain ⟨rfl, rfl⟩ := hp
  refine v_ixor C eX12_compress32_320 ?_
  refine v_iload_n C eX12_compress32_321 rfl 1 rfl ?_
  refine v_iload_n C eX12_compress32_322 rfl 2 rfl ?_
  refine v_iand C eX12_compress32_323 ?_
  refine v_iload_n C eX12_compress32_324 rfl 1 rfl ?_
  refine v_iload_n C eX12_compress32_325 rfl 3 rfl ?_
  refine v_iand C eX12_compress32_326 ?_
  refine v_ixor C eX12_compress32_327 ?_
  refine v_iload_n C eX12_compress32_328 rfl 2 rfl ?_
  refine v_iload_n C eX12_compress32_329 rfl 3 rfl ?_
  refine v_iand C eX12_compress32_330 ?_
  refine v_ixor C eX12_compress32_331 ?_
  refine v_iadd C eX12_compress32_332 ?_
  refine v_topi (fun t2 ht2 => ?_)
  refine v_istore (lv' := [(0, .ref (ad 49)), (1, .int a0), (2, .int b0), (3, .int c0), (4, .int d0), (5, .int e0), (6, .int f0), (7, .int g0), (8, .int h0), (9, .int (nI i)), (10, .int t1), (11, .int t2)]) C eX12_compress32_333 (by decide) [1, 2, 3, 4, 5, 6, 7, 8, 9, 10, 11, 0] rfl ?_
  refine v_iload C eX12_compress32_335 7 rfl ?_
  refine v_istore (lv' := [(0, .ref (ad 49)), (1, .int a0), (2, .int b0), (3, .int c0), (4, .int d0), (5, .int e0), (6, .int f0), (7, .int g0), (8, .int g0), (9, .int (nI i)), (10, .int t1), (11, .int t2)]) C eX12_compress32_337 (by decide) [1, 2, 3, 4, 5, 6, 7, 8, 0, 9, 10, 11] rfl ?_
  refine v_iload C eX12_compress32_339 6 rfl ?_
  refine v_istore (lv' := [(0, .ref (ad 49)), (1, .int a0), (2, .int b0), (3, .int c0), (4, .int d0), (5, .int e0), (6, .int f0), (7, .int f0), (8, .int g0), (9, .int (nI i)), (10, .int t1), (11, .int t2)]) C eX12_compress32_341 (by decide) [1, 2, 3, 4, 5, 6, 7, 0, 8, 9, 10, 11] rfl ?_
  refine v_iload C eX12_compress32_343 5 rfl ?_
  refine v_istore (lv' := [(0, .ref (ad 49)), (1, .int a0), (2, .int b0), (3, .int c0), (4, .int d0), (5, .int e0), (6, .int e0), (7, .int f0), (8, .int g0), (9, .int (nI i)), (10, .int t1), (11, .int t2)]) C eX12_compress32_345 (by decide) [1, 2, 3, 4, 5, 6, 0, 7, 8, 9, 10, 11] rfl ?_
  refine v_iload C eX12_compress32_347 4 rfl ?_
  refine v_iload C eX12_compress32_349 10 rfl ?_
  refine v_iadd C eX12_compress32_351 ?_
  refine v_topi (fun t3 ht3 => ?_)
  refine v_istore (lv' := [(0, .ref (ad 49)), (1, .int a0), (2, .int b0), (3, .int c0), (4, .int d0), (5, .int t3), (6, .int e0), (7, .int f0), (8, .int g0), (9, .int (nI i)), (10, .int t1), (11, .int t2)]) C eX12_compress32_352 (by decide) [1, 2, 3, 4, 5, 0, 6, 7, 8, 9, 10, 11] rfl ?_
  refine v_iload_n C eX12_compress32_354 rfl 3 rfl ?_
  refine v_istore (lv' := [(0, .ref (ad 49)), (1, .int a0), (2, .int b0), (3, .int c0), (4, .int c0), (5, .int t3), (6, .int e0), (7, .int f0), (8, .int g0), (9, .int (nI i)), (10, .int t1), (11, .int t2)]) C eX12_compress32_355 (by decide) [1, 2, 3, 4, 0, 5, 6, 7, 8, 9, 10, 11] rfl ?_
  refine v_iload_n C eX12_compress32_357 rfl 2 rfl ?_
  refine v_istore_n (lv' := [(0, .ref (ad 49)), (1, .int a0), (2, .int b0), (3, .int b0), (4, .int c0), (5, .int t3), (6, .int e0), (7, .int f0), (8, .int g0), (9, .int (nI i)), (10, .int t1), (11, .int t2)]) C eX12_compress32_358 rfl (by decide) [1, 2, 3, 0, 4, 5, 6, 7, 8, 9, 10, 11] rfl ?_
  refine v_iload_n C eX12_compress32_359 rfl 1 rfl ?_
  refine v_istore_n (lv' := [(0, .ref (ad 49)), (1, .int a0), (2, .int a0), (3, .int b0), (4, .int c0), (5, .int t3), (6, .int e0), (7, .int f0), (8, .int g0), (9, .int (nI i)), (10, .int t1), (11, .int t2)]) C eX12_compress32_360 rfl (by decide) [1, 2, 0, 3, 4, 5, 6, 7, 8, 9, 10, 11] rfl ?_
  refine v_iload C eX12_compress32_361 10 rfl ?_
  refine v_iload C eX12_compress32_363 11 rfl ?_
  refine v_iadd C eX12_compress32_365 ?_
  refine v_topi (fun t4 ht4 => ?_)
  refine v_istore_n (lv' := [(0, .ref (ad 49)), (1, .int t4), (2, .int a0), (3, .int b0), (4, .int c0), (5, .int t3), (6, .int e0), (7, .int f0), (8, .int g0), (9, .int (nI i)), (10, .int t1), (11, .int t2)]) C eX12_compress32_366 rfl (by decide) [1, 0, 2, 3, 4, 5, 6, 7, 8, 9, 10, 11] rfl ?_
  refine v_iinc (lv' := [(0, .ref (ad 49)), (1, .int t4), (2, .int a0), (3, .int b0), (4, .int c0), (5, .int t3), (6, .int e0), (7, .int f0), (8, .int g0), (9, .int (nI (i + 1))), (10, .int t1), (11, .int t2)]) C eX12_compress32_367 9 rfl (ix_inc _) (by decide) [1, 2, 3, 4, 5, 6, 7, 8, 9, 0, 10, 11] rfl ?_
  refine v_goto (tgt := 232) C eX12_compress32_370 (by decide) ?_
  refine v_pick (lv' := [(0, .ref (ad 49)), (1, .int t4), (2, .int a0), (3, .int b0), (4, .int c0), (5, .int t3), (6, .int e0), (7, .int f0), (8, .int g0), (9, .int (nI (i + 1)))]) [0, 1, 2, 3, 4, 5, 6, 7, 8, 9] rfl ?_
  subst ht1
  subst ht2
  subst ht3
  subst ht4
  exact kk

set_option maxRecDepth 100000 in
set_option maxHeartbeats 4000000 in
theorem c32_5 (I : nI1 ad N) (hN : ∀ k, k < 74 → k < N) {σ : nS} {p : Program} {e : Env} {R : Room} {s : State} {m : MethodId} {args : Array Value} {below : List Frame} {meth : Method} {c : Code} {cells slots : Nat} {Q : State → Prop} (C : vC G B p m meth c cX12_compress32 12 none s args yX12_compress32.cls) {x : Nat → Int32} {t : Int64} {S w K : Nat → Int64} {Bk : Nat → Int32} (h49 : σ 49 = eO 9 (mO ad x t)) (h17 : σ 17 = eB G 128 Bk) (h6 : σ 6 = eJ G 80 K) (q : q32) (v : Nat → Int64) (hv : ∀ i, i < 8 → (q32g q i).toInt64 = v i) (kk : V G B p l e R s m args below meth c 12 cells slots Q (nW ad N (va_up (va_up σ 13 (eJ G 25 (adA v 8 S))) 16 (eJ G 80 w))) 468 [(0, .ref (ad 49))] []) : V G B p l e R s m args below meth c 12 cells slots Q (nW ad N (va_up (va_up σ 13 (eJ G 25 S)) 16 (eJ G 80 w))) 373 [(0, .ref (ad 49)), (1, .int (q32g q 0)), (2, .int (q32g q 1)), (3, .int (q32g q 2)), (4, .int (q32g q 3)), (5, .int (q32g q 4)), (6, .int (q32g q 5)), (7, .int (q32g q 6)), (8, .int (q32g q 7))] [] := by
  refine v_aload_n C eX12_compress32_373 rfl 0 rfl ?_
  refine n_get C I fX12_48_X12 eX12_compress32_374 (hN 49 (by decide)) h49 rfl ?_
  refine v_iconst (v := (0 : Int32)) C eX12_compress32_377 (by decide) ?_
  refine v_dup2_11 C eX12_compress32_378 rfl rfl ?_
  refine n_lald C I eX12_compress32_379 (hN 13 (by decide)) rfl 0 (rfl : (0 : Int32) = nI 0) (by omega) (by decide) ?_
  refine v_iload_n C eX12_compress32_380 rfl 1 rfl ?_
  refine v_i2l C eX12_compress32_381 ?_
  rw [hv 0 (by decide)]
  refine v_ladd C eX12_compress32_382 ?_
  refine n_last C I eX12_compress32_383 (hN 13 (by decide)) rfl 0 (rfl : (0 : Int32) = nI 0) (by omega) (by decide) ?_
  refine v_eq (w' := nW ad N (va_up (va_up σ 13 (eJ G 25 (vp_updL S 0 ((S 0) + (v 0))))) 16 (eJ G 80 w))) (congrArg (nW ad N) (n_extL [13, 16] ⟨rfl, rfl, trivial⟩ (fun q h => by simp only [List.mem_cons, List.not_mem_nil, or_false, not_or] at h; simp [va_up, h]))) rfl rfl ?_
  refine v_eq (w' := nW ad N (va_up (va_up σ 13 (eJ G 25 (adA v 1 S))) 16 (eJ G 80 w))) rfl rfl rfl ?_
  refine v_aload_n C eX12_compress32_384 rfl 0 rfl ?_
  refine n_get C I fX12_48_X12 eX12_compress32_385 (hN 49 (by decide)) h49 rfl ?_
  refine v_iconst (v := (1 : Int32)) C eX12_compress32_388 (by decide) ?_
  refine v_dup2_11 C eX12_compress32_389 rfl rfl ?_
  refine n_lald C I eX12_compress32_390 (hN 13 (by decide)) rfl 1 (rfl : (1 : Int32) = nI 1) (by omega) (by decide) ?_
  refine v_iload_n C eX12_compress32_391 rfl 2 rfl ?_
  refine v_i2l C eX12_compress32_392 ?_
  rw [hv 1 (by decide)]
  refine v_ladd C eX12_compress32_393 ?_
  refine n_last C I eX12_compress32_394 (hN 13 (by decide)) rfl 1 (rfl : (1 : Int32) = nI 1) (by omega) (by decide) ?_
  refine v_eq (w' := nW ad N (va_up (va_up σ 13 (eJ G 25 (vp_updL (adA v 1 S) 1 (((adA v 1 S) 1) + (v 1))))) 16 (eJ G 80 w))) (congrArg (nW ad N) (n_extL [13, 16] ⟨rfl, rfl, trivial⟩ (fun q h => by simp only [List.mem_cons, List.not_mem_nil, or_false, not_or] at h; simp [va_up, h]))) rfl rfl ?_
  refine v_eq (w' := nW ad N (va_up (va_up σ 13 (eJ G 25 (adA v 2 S))) 16 (eJ G 80 w))) rfl rfl rfl ?_
  refine v_aload_n C eX12_compress32_395 rfl 0 rfl ?_
  refine n_get C I fX12_48_X12 eX12_compress32_396 (hN 49 (by decide)) h49 rfl ?_
  refine v_iconst (v := (2 : Int32)) C eX12_compress32_399 (by decide) ?_
  refine v_dup2_11 C eX12_compress32_400 rfl rfl ?_
  refine n_lald C I eX12_compress32_401 (hN 13 (by decide)) rfl 2 (rfl : (2 : Int32) = nI 2) (by omega) (by decide) ?_
  refine v_iload_n C eX12_compress32_402 rfl 3 rfl ?_
  refine v_i2l C eX12_compress32_403 ?_
  rw [hv 2 (by decide)]
  refine v_ladd C eX12_compress32_404 ?_
  refine n_last C I eX12_compress32_405 (hN 13 (by decide)) rfl 2 (rfl : (2 : Int32) = nI 2) (by omega) (by decide) ?_
  refine v_eq (w' := nW ad N (va_up (va_up σ 13 (eJ G 25 (vp_updL (adA v 2 S) 2 (((adA v 2 S) 2) + (v 2))))) 16 (eJ G 80 w))) (congrArg (nW ad N) (n_extL [13, 16] ⟨rfl, rfl, trivial⟩ (fun q h => by simp only [List.mem_cons, List.not_mem_nil, or_false, not_or] at h; simp [va_up, h]))) rfl rfl ?_
  refine v_eq (w' := nW ad N (va_up (va_up σ 13 (eJ G 25 (adA v 3 S))) 16 (eJ G 80 w))) rfl rfl rfl ?_
  refine v_aload_n C eX12_compress32_406 rfl 0 rfl ?_
  refine n_get C I fX12_48_X12 eX12_compress32_407 (hN 49 (by decide)) h49 rfl ?_
  refine v_iconst (v := (3 : Int32)) C eX12_compress32_410 (by decide) ?_
  refine v_dup2_11 C eX12_compress32_411 rfl rfl ?_
  refine n_lald C I eX12_compress32_412 (hN 13 (by decide)) rfl 3 (rfl : (3 : Int32) = nI 3) (by omega) (by decide) ?_
  refine v_iload C eX12_compress32_413 4 rfl ?_
  refine v_i2l C eX12_compress32_415 ?_
  rw [hv 3 (by decide)]
  refine v_ladd C eX12_compress32_416 ?_
  refine n_last C I eX12_compress32_417 (hN 13 (by decide)) rfl 3 (rfl : (3 : Int32) = nI 3) (by omega) (by decide) ?_
  refine v_eq (w' := nW ad N (va_up (va_up σ 13 (eJ G 25 (vp_updL (adA v 3 S) 3 (((adA v 3 S) 3) + (v 3))))) 16 (eJ G 80 w))) (congrArg (nW ad N) (n_extL [13, 16] ⟨rfl, rfl, trivial⟩ (fun q h => by simp only [List.mem_cons, List.not_mem_nil, or_false, not_or] at h; simp [va_up, h]))) rfl rfl ?_
  refine v_eq (w' := nW ad N (va_up (va_up σ 13 (eJ G 25 (adA v 4 S))) 16 (eJ G 80 w))) rfl rfl rfl ?_
  refine v_aload_n C eX12_compress32_418 rfl 0 rfl ?_
  refine n_get C I fX12_48_X12 eX12_compress32_419 (hN 49 (by decide)) h49 rfl ?_
  refine v_iconst (v := (4 : Int32)) C eX12_compress32_422 (by decide) ?_
  refine v_dup2_11 C eX12_compress32_423 rfl rfl ?_
  refine n_lald C I eX12_compress32_424 (hN 13 (by decide)) rfl 4 (rfl : (4 : Int32) = nI 4) (by omega) (by decide) ?_
  refine v_iload C eX12_compress32_425 5 rfl ?_
  refine v_i2l C eX12_compress32_427 ?_
  rw [hv 4 (by decide)]
  refine v_ladd C eX12_compress32_428 ?_
  refine n_last C I eX12_compress32_429 (hN 13 (by decide)) rfl 4 (rfl : (4 : Int32) = nI 4) (by omega) (by decide) ?_
  refine v_eq (w' := nW ad N (va_up (va_up σ 13 (eJ G 25 (vp_updL (adA v 4 S) 4 (((adA v 4 S) 4) + (v 4))))) 16 (eJ G 80 w))) (congrArg (nW ad N) (n_extL [13, 16] ⟨rfl, rfl, trivial⟩ (fun q h => by simp only [List.mem_cons, List.not_mem_nil, or_false, not_or] at h; simp [va_up, h]))) rfl rfl ?_
  refine v_eq (w' := nW ad N (va_up (va_up σ 13 (eJ G 25 (adA v 5 S))) 16 (eJ G 80 w))) rfl rfl rfl ?_
  refine v_aload_n C eX12_compress32_430 rfl 0 rfl ?_
  refine n_get C I fX12_48_X12 eX12_compress32_431 (hN 49 (by decide)) h49 rfl ?_
  refine v_iconst (v := (5 : Int32)) C eX12_compress32_434 (by decide) ?_
  refine v_dup2_11 C eX12_compress32_435 rfl rfl ?_
  refine n_lald C I eX12_compress32_436 (hN 13 (by decide)) rfl 5 (rfl : (5 : Int32) = nI 5) (by omega) (by decide) ?_
  refine v_iload C eX12_compress32_437 6 rfl ?_
  refine v_i2l C eX12_compress32_439 ?_
  rw [hv 5 (by decide)]
  refine v_ladd C eX12_compress32_440 ?_
  refine n_last C I eX12_compress32_441 (hN 13 (by decide)) rfl 5 (rfl : (5 : Int32) = nI 5) (by omega) (by decide) ?_
  refine v_eq (w' := nW ad N (va_up (va_up σ 13 (eJ G 25 (vp_updL (adA v 5 S) 5 (((adA v 5 S) 5) + (v 5))))) 16 (eJ G 80 w))) (congrArg (nW ad N) (n_extL [13, 16] ⟨rfl, rfl, trivial⟩ (fun q h => by simp only [List.mem_cons, List.not_mem_nil, or_false, not_or] at h; simp [va_up, h]))) rfl rfl ?_
  refine v_eq (w' := nW ad N (va_up (va_up σ 13 (eJ G 25 (adA v 6 S))) 16 (eJ G 80 w))) rfl rfl rfl ?_
  refine v_aload_n C eX12_compress32_442 rfl 0 rfl ?_
  refine n_get C I fX12_48_X12 eX12_compress32_443 (hN 49 (by decide)) h49 rfl ?_
  refine v_bipush (v := (6 : Int32)) C eX12_compress32_446 (by decide) ?_
  refine v_dup2_11 C eX12_compress32_448 rfl rfl ?_
  refine n_lald C I eX12_compress32_449 (hN 13 (by decide)) rfl 6 (rfl : (6 : Int32) = nI 6) (by omega) (by decide) ?_
  refine v_iload C eX12_compress32_450 7 rfl ?_
  refine v_i2l C eX12_compress32_452 ?_
  rw [hv 6 (by decide)]
  refine v_ladd C eX12_compress32_453 ?_
  refine n_last C I eX12_compress32_454 (hN 13 (by decide)) rfl 6 (rfl : (6 : Int32) = nI 6) (by omega) (by decide) ?_
  refine v_eq (w' := nW ad N (va_up (va_up σ 13 (eJ G 25 (vp_updL (adA v 6 S) 6 (((adA v 6 S) 6) + (v 6))))) 16 (eJ G 80 w))) (congrArg (nW ad N) (n_extL [13, 16] ⟨rfl, rfl, trivial⟩ (fun q h => by simp only [List.mem_cons, List.not_mem_nil, or_false, not_or] at h; simp [va_up, h]))) rfl rfl ?_
  refine v_eq (w' := nW ad N (va_up (va_up σ 13 (eJ G 25 (adA v 7 S))) 16 (eJ G 80 w))) rfl rfl rfl ?_
  refine v_aload_n C eX12_compress32_455 rfl 0 rfl ?_
  refine n_get C I fX12_48_X12 eX12_compress32_456 (hN 49 (by decide)) h49 rfl ?_
  refine v_bipush (v := (7 : Int32)) C eX12_compress32_459 (by decide) ?_
  refine v_dup2_11 C eX12_compress32_461 rfl rfl ?_
  refine n_lald C I eX12_compress32_462 (hN 13 (by decide)) rfl 7 (rfl : (7 : Int32) = nI 7) (by omega) (by decide) ?_
  refine v_iload C eX12_compress32_463 8 rfl ?_
  refine v_i2l C eX12_compress32_465 ?_
  rw [hv 7 (by decide)]
  refine v_ladd C eX12_compress32_466 ?_
  refine n_last C I eX12_compress32_467 (hN 13 (by decide)) rfl 7 (rfl : (7 : Int32) = nI 7) (by omega) (by decide) ?_
  refine v_eq (w' := nW ad N (va_up (va_up σ 13 (eJ G 25 (vp_updL (adA v 7 S) 7 (((adA v 7 S) 7) + (v 7))))) 16 (eJ G 80 w))) (congrArg (nW ad N) (n_extL [13, 16] ⟨rfl, rfl, trivial⟩ (fun q h => by simp only [List.mem_cons, List.not_mem_nil, or_false, not_or] at h; simp [va_up, h]))) rfl rfl ?_
  refine v_eq (w' := nW ad N (va_up (va_up σ 13 (eJ G 25 (adA v 8 S))) 16 (eJ G 80 w))) rfl rfl rfl ?_
  refine v_pick (lv' := [(0, .ref (ad 49))]) [0] rfl ?_
  exact kk

set_option maxRecDepth 100000 in
set_option maxHeartbeats 4000000 in
theorem c_compress32 (I : nI1 ad N) (hN : ∀ k, k < 74 → k < N) {σ : nS} {x : Nat → Int32} {t : Int64} {S w K : Nat → Int64} {Bk : Nat → Int32} (h13 : σ 13 = eJ G 25 S) (h16 : σ 16 = eJ G 80 w) (h49 : σ 49 = eO 9 (mO ad x t)) (h17 : σ 17 = eB G 128 Bk) (h6 : σ 6 = eJ G 80 K) : nOk G B l ad N yX12_compress32 cX12_compress32 12 none 1 0 0 [.ref (ad 49)] σ (fun r σ' => r = none ∧ σ' = va_up (va_up σ 13 (eJ G 25 (c32 K Bk w S))) 16 (eJ G 80 (c32W Bk w))) := by
  refine vOk.of (by decide +kernel) (Nat.le_of_ble_eq_true rfl) ?_
  intro p e s m args below meth c C
  refine v_eq (lv' := [(0, .ref (ad 49))]) rfl rfl rfl ?_
  refine v_eq (w' := nW ad N (va_up (va_up σ 13 (eJ G 25 S)) 16 (eJ G 80 w))) (congrArg (nW ad N) (n_extL [13, 16] ⟨h13, h16, trivial⟩ (fun q h => by simp only [List.mem_cons, List.not_mem_nil, or_false, not_or] at h; simp [va_up, h]))) rfl rfl ?_
  refine c32_1 I hN C h49 h17 h6 ?_
  refine c32_2 I hN C h49 h17 h6 rfl (by decide) (by decide) (by decide) ?_
  refine v_eq (w' := nW ad N (va_up (va_up σ 13 (eJ G 25 S)) 16 (eJ G 80 (c32W Bk w)))) rfl rfl rfl ?_
  refine v_aload_n C eX12_compress32_158 rfl 0 rfl ?_
  refine n_get C I fX12_48_X12 eX12_compress32_159 (hN 49 (by decide)) h49 rfl ?_
  refine v_iconst (v := (0 : Int32)) C eX12_compress32_162 (by decide) ?_
  refine n_lald C I eX12_compress32_163 (hN 13 (by decide)) rfl 0 (rfl : (0 : Int32) = nI 0) (by omega) (by decide) ?_
  refine v_l2i C eX12_compress32_164 ?_
  refine v_istore_n (lv' := [(0, .ref (ad 49)), (1, .int ((S 0).toInt32))]) C eX12_compress32_165 rfl (by decide) [1, 0] rfl ?_
  refine v_aload_n C eX12_compress32_166 rfl 0 rfl ?_
  refine n_get C I fX12_48_X12 eX12_compress32_167 (hN 49 (by decide)) h49 rfl ?_
  refine v_iconst (v := (1 : Int32)) C eX12_compress32_170 (by decide) ?_
  refine n_lald C I eX12_compress32_171 (hN 13 (by decide)) rfl 1 (rfl : (1 : Int32) = nI 1) (by omega) (by decide) ?_
  refine v_l2i C eX12_compress32_172 ?_
  refine v_istore_n (lv' := [(0, .ref (ad 49)), (1, .int ((S 0).toInt32)), (2, .int ((S 1).toInt32))]) C eX12_compress32_173 rfl (by decide) [1, 2, 0] rfl ?_
  refine v_aload_n C eX12_compress32_174 rfl 0 rfl ?_
  refine n_get C I fX12_48_X12 eX12_compress32_175 (hN 49 (by decide)) h49 rfl ?_
  refine v_iconst (v := (2 : Int32)) C eX12_compress32_178 (by decide) ?_
  refine n_lald C I eX12_compress32_179 (hN 13 (by decide)) rfl 2 (rfl : (2 : Int32) = nI 2) (by omega) (by decide) ?_
  refine v_l2i C eX12_compress32_180 ?_
  refine v_istore_n (lv' := [(0, .ref (ad 49)), (1, .int ((S 0).toInt32)), (2, .int ((S 1).toInt32)), (3, .int ((S 2).toInt32))]) C eX12_compress32_181 rfl (by decide) [1, 2, 3, 0] rfl ?_
  refine v_aload_n C eX12_compress32_182 rfl 0 rfl ?_
  refine n_get C I fX12_48_X12 eX12_compress32_183 (hN 49 (by decide)) h49 rfl ?_
  refine v_iconst (v := (3 : Int32)) C eX12_compress32_186 (by decide) ?_
  refine n_lald C I eX12_compress32_187 (hN 13 (by decide)) rfl 3 (rfl : (3 : Int32) = nI 3) (by omega) (by decide) ?_
  refine v_l2i C eX12_compress32_188 ?_
  refine v_istore (lv' := [(0, .ref (ad 49)), (1, .int ((S 0).toInt32)), (2, .int ((S 1).toInt32)), (3, .int ((S 2).toInt32)), (4, .int ((S 3).toInt32))]) C eX12_compress32_189 (by decide) [1, 2, 3, 4, 0] rfl ?_
  refine v_aload_n C eX12_compress32_191 rfl 0 rfl ?_
  refine n_get C I fX12_48_X12 eX12_compress32_192 (hN 49 (by decide)) h49 rfl ?_
  refine v_iconst (v := (4 : Int32)) C eX12_compress32_195 (by decide) ?_
  refine n_lald C I eX12_compress32_196 (hN 13 (by decide)) rfl 4 (rfl : (4 : Int32) = nI 4) (by omega) (by decide) ?_
  refine v_l2i C eX12_compress32_197 ?_
  refine v_istore (lv' := [(0, .ref (ad 49)), (1, .int ((S 0).toInt32)), (2, .int ((S 1).toInt32)), (3, .int ((S 2).toInt32)), (4, .int ((S 3).toInt32)), (5, .int ((S 4).toInt32))]) C eX12_compress32_198 (by decide) [1, 2, 3, 4, 5, 0] rfl ?_
  refine v_aload_n C eX12_compress32_200 rfl 0 rfl ?_
  refine n_get C I fX12_48_X12 eX12_compress32_201 (hN 49 (by decide)) h49 rfl ?_
  refine v_iconst (v := (5 : Int32)) C eX12_compress32_204 (by decide) ?_
  refine n_lald C I eX12_compress32_205 (hN 13 (by decide)) rfl 5 (rfl : (5 : Int32) = nI 5) (by omega) (by decide) ?_
  refine v_l2i C eX12_compress32_206 ?_
  refine v_istore (lv' := [(0, .ref (ad 49)), (1, .int ((S 0).toInt32)), (2, .int ((S 1).toInt32)), (3, .int ((S 2).toInt32)), (4, .int ((S 3).toInt32)), (5, .int ((S 4).toInt32)), (6, .int ((S 5).toInt32))]) C eX12_compress32_207 (by decide) [1, 2, 3, 4, 5, 6, 0] rfl ?_
  refine v_aload_n C eX12_compress32_209 rfl 0 rfl ?_
  refine n_get C I fX12_48_X12 eX12_compress32_210 (hN 49 (by decide)) h49 rfl ?_
  refine v_bipush (v := (6 : Int32)) C eX12_compress32_213 (by decide) ?_
  refine n_lald C I eX12_compress32_215 (hN 13 (by decide)) rfl 6 (rfl : (6 : Int32) = nI 6) (by omega) (by decide) ?_
  refine v_l2i C eX12_compress32_216 ?_
  refine v_istore (lv' := [(0, .ref (ad 49)), (1, .int ((S 0).toInt32)), (2, .int ((S 1).toInt32)), (3, .int ((S 2).toInt32)), (4, .int ((S 3).toInt32)), (5, .int ((S 4).toInt32)), (6, .int ((S 5).toInt32)), (7, .int ((S 6).toInt32))]) C eX12_compress32_217 (by decide) [1, 2, 3, 4, 5, 6, 7, 0] rfl ?_
  refine v_aload_n C eX12_compress32_219 rfl 0 rfl ?_
  refine n_get C I fX12_48_X12 eX12_compress32_220 (hN 49 (by decide)) h49 rfl ?_
  refine v_bipush (v := (7 : Int32)) C eX12_compress32_223 (by decide) ?_
  refine n_lald C I eX12_compress32_225 (hN 13 (by decide)) rfl 7 (rfl : (7 : Int32) = nI 7) (by omega) (by decide) ?_
  refine v_l2i C eX12_compress32_226 ?_
  refine v_istore (lv' := [(0, .ref (ad 49)), (1, .int ((S 0).toInt32)), (2, .int ((S 1).toInt32)), (3, .int ((S 2).toInt32)), (4, .int ((S 3).toInt32)), (5, .int ((S 4).toInt32)), (6, .int ((S 5).toInt32)), (7, .int ((S 6).toInt32)), (8, .int ((S 7).toInt32))]) C eX12_compress32_227 (by decide) [1, 2, 3, 4, 5, 6, 7, 8, 0] rfl ?_
  refine v_iconst (v := (0 : Int32)) C eX12_compress32_229 (by decide) ?_
  refine v_istore (lv' := [(0, .ref (ad 49)), (1, .int ((S 0).toInt32)), (2, .int ((S 1).toInt32)), (3, .int ((S 2).toInt32)), (4, .int ((S 3).toInt32)), (5, .int ((S 4).toInt32)), (6, .int ((S 5).toInt32)), (7, .int ((S 6).toInt32)), (8, .int ((S 7).toInt32)), (9, .int ((0 : Int32)))]) C eX12_compress32_230 (by decide) [1, 2, 3, 4, 5, 6, 7, 8, 9, 0] rfl ?_
  refine v_forV (fun i => va_up (va_up σ 13 (eJ G 25 S)) 16 (eJ G 80 (c32W Bk w))) (fun i => [(0, .ref (ad 49)), (1, .int ((itN (c32R K (c32W Bk w)) i (c32I S)).1)), (2, .int ((itN (c32R K (c32W Bk w)) i (c32I S)).2.1)), (3, .int ((itN (c32R K (c32W Bk w)) i (c32I S)).2.2.1)), (4, .int ((itN (c32R K (c32W Bk w)) i (c32I S)).2.2.2.1)), (5, .int ((itN (c32R K (c32W Bk w)) i (c32I S)).2.2.2.2.1)), (6, .int ((itN (c32R K (c32W Bk w)) i (c32I S)).2.2.2.2.2.1)), (7, .int ((itN (c32R K (c32W Bk w)) i (c32I S)).2.2.2.2.2.2.1)), (8, .int ((itN (c32R K (c32W Bk w)) i (c32I S)).2.2.2.2.2.2.2)), (9, .int (nI i))]) 64 ?_ ?_
  · refine v_iload C eX12_compress32_232 9 rfl ?_
    refine v_bipush (v := (64 : Int32)) C eX12_compress32_234 (by decide) ?_
    refine v_icmp_ge (tgt := 373) C eX12_compress32_236 (by decide) (fun _ => ?_) (fun h => absurd (ix_le (a := 64) (b := 64) (rfl : (64 : Int32) = nI 64) (rfl : nI 64 = nI 64) (by omega) (by omega) (by omega)) h)
    refine v_pick (lv' := [(0, .ref (ad 49)), (1, .int (q32g (itN (c32R K (c32W Bk w)) 64 (c32I S)) 0)), (2, .int (q32g (itN (c32R K (c32W Bk w)) 64 (c32I S)) 1)), (3, .int (q32g (itN (c32R K (c32W Bk w)) 64 (c32I S)) 2)), (4, .int (q32g (itN (c32R K (c32W Bk w)) 64 (c32I S)) 3)), (5, .int (q32g (itN (c32R K (c32W Bk w)) 64 (c32I S)) 4)), (6, .int (q32g (itN (c32R K (c32W Bk w)) 64 (c32I S)) 5)), (7, .int (q32g (itN (c32R K (c32W Bk w)) 64 (c32I S)) 6)), (8, .int (q32g (itN (c32R K (c32W Bk w)) 64 (c32I S)) 7))]) [0, 1, 2, 3, 4, 5, 6, 7, 8] rfl ?_
    refine c32_5 I hN C h49 h17 h6 (itN (c32R K (c32W Bk w)) 64 (c32I S)) (fun i => (q32g (itN (c32R K (c32W Bk w)) 64 (c32I S)) i).toInt64) (fun _ _ => rfl) ?_
    exact n_vret C rfl eX12_compress32_468 ⟨rfl, rfl⟩
  · intro i hi ih
    refine v_iload C eX12_compress32_232 9 rfl ?_
    refine v_bipush (v := (64 : Int32)) C eX12_compress32_234 (by decide) ?_
    refine v_icmp_ge (tgt := 373) C eX12_compress32_236 (by decide) (fun h => absurd h (ix_nle (a := 64) (b := i) (rfl : (64 : Int32) = nI 64) (rfl : nI i = nI i) (by omega) (by omega) (by omega))) (fun _ => ?_)
    rw [show itN (c32R K (c32W Bk w)) (i + 1) (c32I S) = c32R K (c32W Bk w) i (itN (c32R K (c32W Bk w)) i (c32I S)) from rfl] at ih
    generalize itN (c32R K (c32W Bk w)) i (c32I S) = q at ih ⊢
    obtain ⟨a0, b0, c0, d0, e0, f0, g0, h0⟩ := q
    exact c32_4 I hN C h49 h17 h6 i hi a0 b0 c0 d0 e0 f0 g0 h0 rfl (by decide) (by decide) (by decide) ih

end M3
