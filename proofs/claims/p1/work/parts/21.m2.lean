theorem eX12_compress64_0 : vD cX12_compress64 0 (.iconst 0) 1 1 := ⟨by decide +kernel, rfl⟩
theorem eX12_compress64_1 : vD cX12_compress64 1 (.istore_n 1) 1 2 := ⟨by decide +kernel, rfl⟩
theorem eX12_compress64_2 : vD cX12_compress64 2 (.iload_n 1) 1 3 := ⟨by decide +kernel, rfl⟩
theorem eX12_compress64_3 : vD cX12_compress64 3 (.bipush 16) 2 5 := ⟨by decide +kernel, rfl⟩
theorem eX12_compress64_5 : vD cX12_compress64 5 (.if_icmp .ge 62) 3 8 := ⟨by decide +kernel, rfl⟩
theorem eX12_compress64_8 : vD cX12_compress64 8 (.aload_n 0) 1 9 := ⟨by decide +kernel, rfl⟩
theorem eX12_compress64_9 : vD cX12_compress64 9 (.getfield 57) 3 12 := ⟨by decide +kernel, rfl⟩
theorem eX12_compress64_12 : vD cX12_compress64 12 (.iload_n 1) 1 13 := ⟨by decide +kernel, rfl⟩
theorem eX12_compress64_13 : vD cX12_compress64 13 (.lconst 0) 1 14 := ⟨by decide +kernel, rfl⟩
theorem eX12_compress64_14 : vD cX12_compress64 14 .lastore 1 15 := ⟨by decide +kernel, rfl⟩
theorem eX12_compress64_15 : vD cX12_compress64 15 (.iconst 0) 1 16 := ⟨by decide +kernel, rfl⟩
theorem eX12_compress64_16 : vD cX12_compress64 16 (.istore_n 2) 1 17 := ⟨by decide +kernel, rfl⟩
theorem eX12_compress64_17 : vD cX12_compress64 17 (.iload_n 2) 1 18 := ⟨by decide +kernel, rfl⟩
theorem eX12_compress64_18 : vD cX12_compress64 18 (.bipush 8) 2 20 := ⟨by decide +kernel, rfl⟩
theorem eX12_compress64_20 : vD cX12_compress64 20 (.if_icmp .ge 41) 3 23 := ⟨by decide +kernel, rfl⟩
theorem eX12_compress64_23 : vD cX12_compress64 23 (.aload_n 0) 1 24 := ⟨by decide +kernel, rfl⟩
theorem eX12_compress64_24 : vD cX12_compress64 24 (.getfield 57) 3 27 := ⟨by decide +kernel, rfl⟩
theorem eX12_compress64_27 : vD cX12_compress64 27 (.iload_n 1) 1 28 := ⟨by decide +kernel, rfl⟩
theorem eX12_compress64_28 : vD cX12_compress64 28 (.aload_n 0) 1 29 := ⟨by decide +kernel, rfl⟩
theorem eX12_compress64_29 : vD cX12_compress64 29 (.getfield 57) 3 32 := ⟨by decide +kernel, rfl⟩
theorem eX12_compress64_32 : vD cX12_compress64 32 (.iload_n 1) 1 33 := ⟨by decide +kernel, rfl⟩
theorem eX12_compress64_33 : vD cX12_compress64 33 .laload 1 34 := ⟨by decide +kernel, rfl⟩
theorem eX12_compress64_34 : vD cX12_compress64 34 (.bipush 8) 2 36 := ⟨by decide +kernel, rfl⟩
theorem eX12_compress64_36 : vD cX12_compress64 36 .lshl 1 37 := ⟨by decide +kernel, rfl⟩
theorem eX12_compress64_37 : vD cX12_compress64 37 (.aload_n 0) 1 38 := ⟨by decide +kernel, rfl⟩
theorem eX12_compress64_38 : vD cX12_compress64 38 (.getfield 60) 3 41 := ⟨by decide +kernel, rfl⟩
theorem eX12_compress64_41 : vD cX12_compress64 41 (.bipush 8) 2 43 := ⟨by decide +kernel, rfl⟩
theorem eX12_compress64_43 : vD cX12_compress64 43 (.iload_n 1) 1 44 := ⟨by decide +kernel, rfl⟩
theorem eX12_compress64_44 : vD cX12_compress64 44 .imul 1 45 := ⟨by decide +kernel, rfl⟩
theorem eX12_compress64_45 : vD cX12_compress64 45 (.iload_n 2) 1 46 := ⟨by decide +kernel, rfl⟩
theorem eX12_compress64_46 : vD cX12_compress64 46 .iadd 1 47 := ⟨by decide +kernel, rfl⟩
theorem eX12_compress64_47 : vD cX12_compress64 47 .baload 1 48 := ⟨by decide +kernel, rfl⟩
theorem eX12_compress64_48 : vD cX12_compress64 48 .i2l 1 49 := ⟨by decide +kernel, rfl⟩
theorem eX12_compress64_49 : vD cX12_compress64 49 (.ldc2_w 142) 3 52 := ⟨by decide +kernel, rfl⟩
theorem eX12_compress64_52 : vD cX12_compress64 52 .land 1 53 := ⟨by decide +kernel, rfl⟩
theorem eX12_compress64_53 : vD cX12_compress64 53 .lor 1 54 := ⟨by decide +kernel, rfl⟩
theorem eX12_compress64_54 : vD cX12_compress64 54 .lastore 1 55 := ⟨by decide +kernel, rfl⟩
theorem eX12_compress64_55 : vD cX12_compress64 55 (.iinc 2 1) 3 58 := ⟨by decide +kernel, rfl⟩
theorem eX12_compress64_58 : vD cX12_compress64 58 (.goto (-41)) 3 61 := ⟨by decide +kernel, rfl⟩
theorem eX12_compress64_61 : vD cX12_compress64 61 (.iinc 1 1) 3 64 := ⟨by decide +kernel, rfl⟩
theorem eX12_compress64_64 : vD cX12_compress64 64 (.goto (-62)) 3 67 := ⟨by decide +kernel, rfl⟩
theorem eX12_compress64_67 : vD cX12_compress64 67 (.bipush 16) 2 69 := ⟨by decide +kernel, rfl⟩
theorem eX12_compress64_69 : vD cX12_compress64 69 (.istore_n 1) 1 70 := ⟨by decide +kernel, rfl⟩
theorem eX12_compress64_70 : vD cX12_compress64 70 (.iload_n 1) 1 71 := ⟨by decide +kernel, rfl⟩
theorem eX12_compress64_71 : vD cX12_compress64 71 (.bipush 80) 2 73 := ⟨by decide +kernel, rfl⟩
theorem eX12_compress64_73 : vD cX12_compress64 73 (.if_icmp .ge 94) 3 76 := ⟨by decide +kernel, rfl⟩
theorem eX12_compress64_76 : vD cX12_compress64 76 (.aload_n 0) 1 77 := ⟨by decide +kernel, rfl⟩
theorem eX12_compress64_77 : vD cX12_compress64 77 (.getfield 57) 3 80 := ⟨by decide +kernel, rfl⟩
theorem eX12_compress64_80 : vD cX12_compress64 80 (.iload_n 1) 1 81 := ⟨by decide +kernel, rfl⟩
theorem eX12_compress64_81 : vD cX12_compress64 81 (.iconst 2) 1 82 := ⟨by decide +kernel, rfl⟩
theorem eX12_compress64_82 : vD cX12_compress64 82 .isub 1 83 := ⟨by decide +kernel, rfl⟩
theorem eX12_compress64_83 : vD cX12_compress64 83 .laload 1 84 := ⟨by decide +kernel, rfl⟩
theorem eX12_compress64_84 : vD cX12_compress64 84 (.lstore_n 2) 1 85 := ⟨by decide +kernel, rfl⟩
theorem eX12_compress64_85 : vD cX12_compress64 85 (.aload_n 0) 1 86 := ⟨by decide +kernel, rfl⟩
theorem eX12_compress64_86 : vD cX12_compress64 86 (.getfield 57) 3 89 := ⟨by decide +kernel, rfl⟩
theorem eX12_compress64_89 : vD cX12_compress64 89 (.iload_n 1) 1 90 := ⟨by decide +kernel, rfl⟩
theorem eX12_compress64_90 : vD cX12_compress64 90 (.bipush 15) 2 92 := ⟨by decide +kernel, rfl⟩
theorem eX12_compress64_92 : vD cX12_compress64 92 .isub 1 93 := ⟨by decide +kernel, rfl⟩
theorem eX12_compress64_93 : vD cX12_compress64 93 .laload 1 94 := ⟨by decide +kernel, rfl⟩
theorem eX12_compress64_94 : vD cX12_compress64 94 (.lstore 4) 2 96 := ⟨by decide +kernel, rfl⟩
theorem eX12_compress64_96 : vD cX12_compress64 96 (.aload_n 0) 1 97 := ⟨by decide +kernel, rfl⟩
theorem eX12_compress64_97 : vD cX12_compress64 97 (.getfield 57) 3 100 := ⟨by decide +kernel, rfl⟩
theorem eX12_compress64_100 : vD cX12_compress64 100 (.iload_n 1) 1 101 := ⟨by decide +kernel, rfl⟩
theorem eX12_compress64_101 : vD cX12_compress64 101 (.lload_n 2) 1 102 := ⟨by decide +kernel, rfl⟩
theorem eX12_compress64_102 : vD cX12_compress64 102 (.bipush 19) 2 104 := ⟨by decide +kernel, rfl⟩
theorem eX12_compress64_104 : vD cX12_compress64 104 (.invokestatic 221) 3 107 := ⟨by decide +kernel, rfl⟩
theorem eX12_compress64_107 : vD cX12_compress64 107 (.lload_n 2) 1 108 := ⟨by decide +kernel, rfl⟩
theorem eX12_compress64_108 : vD cX12_compress64 108 (.bipush 61) 2 110 := ⟨by decide +kernel, rfl⟩
theorem eX12_compress64_110 : vD cX12_compress64 110 (.invokestatic 221) 3 113 := ⟨by decide +kernel, rfl⟩
theorem eX12_compress64_113 : vD cX12_compress64 113 .lxor 1 114 := ⟨by decide +kernel, rfl⟩
theorem eX12_compress64_114 : vD cX12_compress64 114 (.lload_n 2) 1 115 := ⟨by decide +kernel, rfl⟩
theorem eX12_compress64_115 : vD cX12_compress64 115 (.bipush 6) 2 117 := ⟨by decide +kernel, rfl⟩
theorem eX12_compress64_117 : vD cX12_compress64 117 .lushr 1 118 := ⟨by decide +kernel, rfl⟩
theorem eX12_compress64_118 : vD cX12_compress64 118 .lxor 1 119 := ⟨by decide +kernel, rfl⟩
theorem eX12_compress64_119 : vD cX12_compress64 119 (.aload_n 0) 1 120 := ⟨by decide +kernel, rfl⟩
theorem eX12_compress64_120 : vD cX12_compress64 120 (.getfield 57) 3 123 := ⟨by decide +kernel, rfl⟩
theorem eX12_compress64_123 : vD cX12_compress64 123 (.iload_n 1) 1 124 := ⟨by decide +kernel, rfl⟩
theorem eX12_compress64_124 : vD cX12_compress64 124 (.bipush 7) 2 126 := ⟨by decide +kernel, rfl⟩
theorem eX12_compress64_126 : vD cX12_compress64 126 .isub 1 127 := ⟨by decide +kernel, rfl⟩
theorem eX12_compress64_127 : vD cX12_compress64 127 .laload 1 128 := ⟨by decide +kernel, rfl⟩
theorem eX12_compress64_128 : vD cX12_compress64 128 .ladd 1 129 := ⟨by decide +kernel, rfl⟩
theorem eX12_compress64_129 : vD cX12_compress64 129 (.lload 4) 2 131 := ⟨by decide +kernel, rfl⟩
theorem eX12_compress64_131 : vD cX12_compress64 131 (.iconst 1) 1 132 := ⟨by decide +kernel, rfl⟩
theorem eX12_compress64_132 : vD cX12_compress64 132 (.invokestatic 221) 3 135 := ⟨by decide +kernel, rfl⟩
theorem eX12_compress64_135 : vD cX12_compress64 135 (.lload 4) 2 137 := ⟨by decide +kernel, rfl⟩
theorem eX12_compress64_137 : vD cX12_compress64 137 (.bipush 8) 2 139 := ⟨by decide +kernel, rfl⟩
theorem eX12_compress64_139 : vD cX12_compress64 139 (.invokestatic 221) 3 142 := ⟨by decide +kernel, rfl⟩
theorem eX12_compress64_142 : vD cX12_compress64 142 .lxor 1 143 := ⟨by decide +kernel, rfl⟩
theorem eX12_compress64_143 : vD cX12_compress64 143 (.lload 4) 2 145 := ⟨by decide +kernel, rfl⟩
theorem eX12_compress64_145 : vD cX12_compress64 145 (.bipush 7) 2 147 := ⟨by decide +kernel, rfl⟩
theorem eX12_compress64_147 : vD cX12_compress64 147 .lushr 1 148 := ⟨by decide +kernel, rfl⟩
theorem eX12_compress64_148 : vD cX12_compress64 148 .lxor 1 149 := ⟨by decide +kernel, rfl⟩
theorem eX12_compress64_149 : vD cX12_compress64 149 .ladd 1 150 := ⟨by decide +kernel, rfl⟩
theorem eX12_compress64_150 : vD cX12_compress64 150 (.aload_n 0) 1 151 := ⟨by decide +kernel, rfl⟩
theorem eX12_compress64_151 : vD cX12_compress64 151 (.getfield 57) 3 154 := ⟨by decide +kernel, rfl⟩
theorem eX12_compress64_154 : vD cX12_compress64 154 (.iload_n 1) 1 155 := ⟨by decide +kernel, rfl⟩
theorem eX12_compress64_155 : vD cX12_compress64 155 (.bipush 16) 2 157 := ⟨by decide +kernel, rfl⟩
theorem eX12_compress64_157 : vD cX12_compress64 157 .isub 1 158 := ⟨by decide +kernel, rfl⟩
theorem eX12_compress64_158 : vD cX12_compress64 158 .laload 1 159 := ⟨by decide +kernel, rfl⟩
theorem eX12_compress64_159 : vD cX12_compress64 159 .ladd 1 160 := ⟨by decide +kernel, rfl⟩
theorem eX12_compress64_160 : vD cX12_compress64 160 .lastore 1 161 := ⟨by decide +kernel, rfl⟩
theorem eX12_compress64_161 : vD cX12_compress64 161 (.iinc 1 1) 3 164 := ⟨by decide +kernel, rfl⟩
theorem eX12_compress64_164 : vD cX12_compress64 164 (.goto (-94)) 3 167 := ⟨by decide +kernel, rfl⟩
theorem eX12_compress64_167 : vD cX12_compress64 167 (.aload_n 0) 1 168 := ⟨by decide +kernel, rfl⟩
theorem eX12_compress64_168 : vD cX12_compress64 168 (.getfield 48) 3 171 := ⟨by decide +kernel, rfl⟩
theorem eX12_compress64_171 : vD cX12_compress64 171 (.iconst 0) 1 172 := ⟨by decide +kernel, rfl⟩
theorem eX12_compress64_172 : vD cX12_compress64 172 .laload 1 173 := ⟨by decide +kernel, rfl⟩
theorem eX12_compress64_173 : vD cX12_compress64 173 (.lstore_n 1) 1 174 := ⟨by decide +kernel, rfl⟩
theorem eX12_compress64_174 : vD cX12_compress64 174 (.aload_n 0) 1 175 := ⟨by decide +kernel, rfl⟩
theorem eX12_compress64_175 : vD cX12_compress64 175 (.getfield 48) 3 178 := ⟨by decide +kernel, rfl⟩
theorem eX12_compress64_178 : vD cX12_compress64 178 (.iconst 1) 1 179 := ⟨by decide +kernel, rfl⟩
theorem eX12_compress64_179 : vD cX12_compress64 179 .laload 1 180 := ⟨by decide +kernel, rfl⟩
theorem eX12_compress64_180 : vD cX12_compress64 180 (.lstore_n 3) 1 181 := ⟨by decide +kernel, rfl⟩
theorem eX12_compress64_181 : vD cX12_compress64 181 (.aload_n 0) 1 182 := ⟨by decide +kernel, rfl⟩
theorem eX12_compress64_182 : vD cX12_compress64 182 (.getfield 48) 3 185 := ⟨by decide +kernel, rfl⟩
theorem eX12_compress64_185 : vD cX12_compress64 185 (.iconst 2) 1 186 := ⟨by decide +kernel, rfl⟩
theorem eX12_compress64_186 : vD cX12_compress64 186 .laload 1 187 := ⟨by decide +kernel, rfl⟩
theorem eX12_compress64_187 : vD cX12_compress64 187 (.lstore 5) 2 189 := ⟨by decide +kernel, rfl⟩
theorem eX12_compress64_189 : vD cX12_compress64 189 (.aload_n 0) 1 190 := ⟨by decide +kernel, rfl⟩
theorem eX12_compress64_190 : vD cX12_compress64 190 (.getfield 48) 3 193 := ⟨by decide +kernel, rfl⟩
theorem eX12_compress64_193 : vD cX12_compress64 193 (.iconst 3) 1 194 := ⟨by decide +kernel, rfl⟩
theorem eX12_compress64_194 : vD cX12_compress64 194 .laload 1 195 := ⟨by decide +kernel, rfl⟩
theorem eX12_compress64_195 : vD cX12_compress64 195 (.lstore 7) 2 197 := ⟨by decide +kernel, rfl⟩
theorem eX12_compress64_197 : vD cX12_compress64 197 (.aload_n 0) 1 198 := ⟨by decide +kernel, rfl⟩
theorem eX12_compress64_198 : vD cX12_compress64 198 (.getfield 48) 3 201 := ⟨by decide +kernel, rfl⟩
theorem eX12_compress64_201 : vD cX12_compress64 201 (.iconst 4) 1 202 := ⟨by decide +kernel, rfl⟩
theorem eX12_compress64_202 : vD cX12_compress64 202 .laload 1 203 := ⟨by decide +kernel, rfl⟩
theorem eX12_compress64_203 : vD cX12_compress64 203 (.lstore 9) 2 205 := ⟨by decide +kernel, rfl⟩
theorem eX12_compress64_205 : vD cX12_compress64 205 (.aload_n 0) 1 206 := ⟨by decide +kernel, rfl⟩
theorem eX12_compress64_206 : vD cX12_compress64 206 (.getfield 48) 3 209 := ⟨by decide +kernel, rfl⟩
theorem eX12_compress64_209 : vD cX12_compress64 209 (.iconst 5) 1 210 := ⟨by decide +kernel, rfl⟩
theorem eX12_compress64_210 : vD cX12_compress64 210 .laload 1 211 := ⟨by decide +kernel, rfl⟩
theorem eX12_compress64_211 : vD cX12_compress64 211 (.lstore 11) 2 213 := ⟨by decide +kernel, rfl⟩
theorem eX12_compress64_213 : vD cX12_compress64 213 (.aload_n 0) 1 214 := ⟨by decide +kernel, rfl⟩
theorem eX12_compress64_214 : vD cX12_compress64 214 (.getfield 48) 3 217 := ⟨by decide +kernel, rfl⟩
theorem eX12_compress64_217 : vD cX12_compress64 217 (.bipush 6) 2 219 := ⟨by decide +kernel, rfl⟩
theorem eX12_compress64_219 : vD cX12_compress64 219 .laload 1 220 := ⟨by decide +kernel, rfl⟩
theorem eX12_compress64_220 : vD cX12_compress64 220 (.lstore 13) 2 222 := ⟨by decide +kernel, rfl⟩
theorem eX12_compress64_222 : vD cX12_compress64 222 (.aload_n 0) 1 223 := ⟨by decide +kernel, rfl⟩
theorem eX12_compress64_223 : vD cX12_compress64 223 (.getfield 48) 3 226 := ⟨by decide +kernel, rfl⟩
theorem eX12_compress64_226 : vD cX12_compress64 226 (.bipush 7) 2 228 := ⟨by decide +kernel, rfl⟩
theorem eX12_compress64_228 : vD cX12_compress64 228 .laload 1 229 := ⟨by decide +kernel, rfl⟩
theorem eX12_compress64_229 : vD cX12_compress64 229 (.lstore 15) 2 231 := ⟨by decide +kernel, rfl⟩
theorem eX12_compress64_231 : vD cX12_compress64 231 (.iconst 0) 1 232 := ⟨by decide +kernel, rfl⟩
theorem eX12_compress64_232 : vD cX12_compress64 232 (.istore 17) 2 234 := ⟨by decide +kernel, rfl⟩
theorem eX12_compress64_234 : vD cX12_compress64 234 (.iload 17) 2 236 := ⟨by decide +kernel, rfl⟩
theorem eX12_compress64_236 : vD cX12_compress64 236 (.bipush 80) 2 238 := ⟨by decide +kernel, rfl⟩
theorem eX12_compress64_238 : vD cX12_compress64 238 (.if_icmp .ge 139) 3 241 := ⟨by decide +kernel, rfl⟩
theorem eX12_compress64_241 : vD cX12_compress64 241 (.lload 15) 2 243 := ⟨by decide +kernel, rfl⟩
theorem eX12_compress64_243 : vD cX12_compress64 243 (.lload 9) 2 245 := ⟨by decide +kernel, rfl⟩
theorem eX12_compress64_245 : vD cX12_compress64 245 (.bipush 14) 2 247 := ⟨by decide +kernel, rfl⟩
theorem eX12_compress64_247 : vD cX12_compress64 247 (.invokestatic 221) 3 250 := ⟨by decide +kernel, rfl⟩
theorem eX12_compress64_250 : vD cX12_compress64 250 (.lload 9) 2 252 := ⟨by decide +kernel, rfl⟩
theorem eX12_compress64_252 : vD cX12_compress64 252 (.bipush 18) 2 254 := ⟨by decide +kernel, rfl⟩
theorem eX12_compress64_254 : vD cX12_compress64 254 (.invokestatic 221) 3 257 := ⟨by decide +kernel, rfl⟩
theorem eX12_compress64_257 : vD cX12_compress64 257 .lxor 1 258 := ⟨by decide +kernel, rfl⟩
theorem eX12_compress64_258 : vD cX12_compress64 258 (.lload 9) 2 260 := ⟨by decide +kernel, rfl⟩
theorem eX12_compress64_260 : vD cX12_compress64 260 (.bipush 41) 2 262 := ⟨by decide +kernel, rfl⟩
theorem eX12_compress64_262 : vD cX12_compress64 262 (.invokestatic 221) 3 265 := ⟨by decide +kernel, rfl⟩
theorem eX12_compress64_265 : vD cX12_compress64 265 .lxor 1 266 := ⟨by decide +kernel, rfl⟩
theorem eX12_compress64_266 : vD cX12_compress64 266 .ladd 1 267 := ⟨by decide +kernel, rfl⟩
theorem eX12_compress64_267 : vD cX12_compress64 267 (.lload 9) 2 269 := ⟨by decide +kernel, rfl⟩
theorem eX12_compress64_269 : vD cX12_compress64 269 (.lload 11) 2 271 := ⟨by decide +kernel, rfl⟩
theorem eX12_compress64_271 : vD cX12_compress64 271 .land 1 272 := ⟨by decide +kernel, rfl⟩
theorem eX12_compress64_272 : vD cX12_compress64 272 (.lload 9) 2 274 := ⟨by decide +kernel, rfl⟩
theorem eX12_compress64_274 : vD cX12_compress64 274 (.ldc2_w 219) 3 277 := ⟨by decide +kernel, rfl⟩
theorem eX12_compress64_277 : vD cX12_compress64 277 .lxor 1 278 := ⟨by decide +kernel, rfl⟩
theorem eX12_compress64_278 : vD cX12_compress64 278 (.lload 13) 2 280 := ⟨by decide +kernel, rfl⟩
theorem eX12_compress64_280 : vD cX12_compress64 280 .land 1 281 := ⟨by decide +kernel, rfl⟩
theorem eX12_compress64_281 : vD cX12_compress64 281 .lxor 1 282 := ⟨by decide +kernel, rfl⟩
theorem eX12_compress64_282 : vD cX12_compress64 282 .ladd 1 283 := ⟨by decide +kernel, rfl⟩
theorem eX12_compress64_283 : vD cX12_compress64 283 (.aload_n 0) 1 284 := ⟨by decide +kernel, rfl⟩
theorem eX12_compress64_284 : vD cX12_compress64 284 (.getfield 27) 3 287 := ⟨by decide +kernel, rfl⟩
theorem eX12_compress64_287 : vD cX12_compress64 287 (.iload 17) 2 289 := ⟨by decide +kernel, rfl⟩
theorem eX12_compress64_289 : vD cX12_compress64 289 .laload 1 290 := ⟨by decide +kernel, rfl⟩
theorem eX12_compress64_290 : vD cX12_compress64 290 .ladd 1 291 := ⟨by decide +kernel, rfl⟩
theorem eX12_compress64_291 : vD cX12_compress64 291 (.aload_n 0) 1 292 := ⟨by decide +kernel, rfl⟩
theorem eX12_compress64_292 : vD cX12_compress64 292 (.getfield 57) 3 295 := ⟨by decide +kernel, rfl⟩
theorem eX12_compress64_295 : vD cX12_compress64 295 (.iload 17) 2 297 := ⟨by decide +kernel, rfl⟩
theorem eX12_compress64_297 : vD cX12_compress64 297 .laload 1 298 := ⟨by decide +kernel, rfl⟩
theorem eX12_compress64_298 : vD cX12_compress64 298 .ladd 1 299 := ⟨by decide +kernel, rfl⟩
theorem eX12_compress64_299 : vD cX12_compress64 299 (.lstore 18) 2 301 := ⟨by decide +kernel, rfl⟩
theorem eX12_compress64_301 : vD cX12_compress64 301 (.lload_n 1) 1 302 := ⟨by decide +kernel, rfl⟩
theorem eX12_compress64_302 : vD cX12_compress64 302 (.bipush 28) 2 304 := ⟨by decide +kernel, rfl⟩
theorem eX12_compress64_304 : vD cX12_compress64 304 (.invokestatic 221) 3 307 := ⟨by decide +kernel, rfl⟩
theorem eX12_compress64_307 : vD cX12_compress64 307 (.lload_n 1) 1 308 := ⟨by decide +kernel, rfl⟩
theorem eX12_compress64_308 : vD cX12_compress64 308 (.bipush 34) 2 310 := ⟨by decide +kernel, rfl⟩
theorem eX12_compress64_310 : vD cX12_compress64 310 (.invokestatic 221) 3 313 := ⟨by decide +kernel, rfl⟩
theorem eX12_compress64_313 : vD cX12_compress64 313 .lxor 1 314 := ⟨by decide +kernel, rfl⟩
theorem eX12_compress64_314 : vD cX12_compress64 314 (.lload_n 1) 1 315 := ⟨by decide +kernel, rfl⟩
theorem eX12_compress64_315 : vD cX12_compress64 315 (.bipush 39) 2 317 := ⟨by decide +kernel, rfl⟩
theorem eX12_compress64_317 : vD cX12_compress64 317 (.invokestatic 221) 3 320 := ⟨by decide +kernel, rfl⟩
theorem eX12_compress64_320 : vD cX12_compress64 320 .lxor 1 321 := ⟨by decide +kernel, rfl⟩
theorem eX12_compress64_321 : vD cX12_compress64 321 (.lload_n 1) 1 322 := ⟨by decide +kernel, rfl⟩
theorem eX12_compress64_322 : vD cX12_compress64 322 (.lload_n 3) 1 323 := ⟨by decide +kernel, rfl⟩
theorem eX12_compress64_323 : vD cX12_compress64 323 .land 1 324 := ⟨by decide +kernel, rfl⟩
theorem eX12_compress64_324 : vD cX12_compress64 324 (.lload_n 1) 1 325 := ⟨by decide +kernel, rfl⟩
theorem eX12_compress64_325 : vD cX12_compress64 325 (.lload 5) 2 327 := ⟨by decide +kernel, rfl⟩
theorem eX12_compress64_327 : vD cX12_compress64 327 .land 1 328 := ⟨by decide +kernel, rfl⟩
theorem eX12_compress64_328 : vD cX12_compress64 328 .lxor 1 329 := ⟨by decide +kernel, rfl⟩
theorem eX12_compress64_329 : vD cX12_compress64 329 (.lload_n 3) 1 330 := ⟨by decide +kernel, rfl⟩
theorem eX12_compress64_330 : vD cX12_compress64 330 (.lload 5) 2 332 := ⟨by decide +kernel, rfl⟩
theorem eX12_compress64_332 : vD cX12_compress64 332 .land 1 333 := ⟨by decide +kernel, rfl⟩
theorem eX12_compress64_333 : vD cX12_compress64 333 .lxor 1 334 := ⟨by decide +kernel, rfl⟩
theorem eX12_compress64_334 : vD cX12_compress64 334 .ladd 1 335 := ⟨by decide +kernel, rfl⟩
theorem eX12_compress64_335 : vD cX12_compress64 335 (.lstore 20) 2 337 := ⟨by decide +kernel, rfl⟩
theorem eX12_compress64_337 : vD cX12_compress64 337 (.lload 13) 2 339 := ⟨by decide +kernel, rfl⟩
theorem eX12_compress64_339 : vD cX12_compress64 339 (.lstore 15) 2 341 := ⟨by decide +kernel, rfl⟩
theorem eX12_compress64_341 : vD cX12_compress64 341 (.lload 11) 2 343 := ⟨by decide +kernel, rfl⟩
theorem eX12_compress64_343 : vD cX12_compress64 343 (.lstore 13) 2 345 := ⟨by decide +kernel, rfl⟩
theorem eX12_compress64_345 : vD cX12_compress64 345 (.lload 9) 2 347 := ⟨by decide +kernel, rfl⟩
theorem eX12_compress64_347 : vD cX12_compress64 347 (.lstore 11) 2 349 := ⟨by decide +kernel, rfl⟩
theorem eX12_compress64_349 : vD cX12_compress64 349 (.lload 7) 2 351 := ⟨by decide +kernel, rfl⟩
theorem eX12_compress64_351 : vD cX12_compress64 351 (.lload 18) 2 353 := ⟨by decide +kernel, rfl⟩
theorem eX12_compress64_353 : vD cX12_compress64 353 .ladd 1 354 := ⟨by decide +kernel, rfl⟩
theorem eX12_compress64_354 : vD cX12_compress64 354 (.lstore 9) 2 356 := ⟨by decide +kernel, rfl⟩
theorem eX12_compress64_356 : vD cX12_compress64 356 (.lload 5) 2 358 := ⟨by decide +kernel, rfl⟩
theorem eX12_compress64_358 : vD cX12_compress64 358 (.lstore 7) 2 360 := ⟨by decide +kernel, rfl⟩
theorem eX12_compress64_360 : vD cX12_compress64 360 (.lload_n 3) 1 361 := ⟨by decide +kernel, rfl⟩
theorem eX12_compress64_361 : vD cX12_compress64 361 (.lstore 5) 2 363 := ⟨by decide +kernel, rfl⟩
theorem eX12_compress64_363 : vD cX12_compress64 363 (.lload_n 1) 1 364 := ⟨by decide +kernel, rfl⟩
theorem eX12_compress64_364 : vD cX12_compress64 364 (.lstore_n 3) 1 365 := ⟨by decide +kernel, rfl⟩
theorem eX12_compress64_365 : vD cX12_compress64 365 (.lload 18) 2 367 := ⟨by decide +kernel, rfl⟩
theorem eX12_compress64_367 : vD cX12_compress64 367 (.lload 20) 2 369 := ⟨by decide +kernel, rfl⟩
theorem eX12_compress64_369 : vD cX12_compress64 369 .ladd 1 370 := ⟨by decide +kernel, rfl⟩
theorem eX12_compress64_370 : vD cX12_compress64 370 (.lstore_n 1) 1 371 := ⟨by decide +kernel, rfl⟩
theorem eX12_compress64_371 : vD cX12_compress64 371 (.iinc 17 1) 3 374 := ⟨by decide +kernel, rfl⟩
theorem eX12_compress64_374 : vD cX12_compress64 374 (.goto (-140)) 3 377 := ⟨by decide +kernel, rfl⟩
theorem eX12_compress64_377 : vD cX12_compress64 377 (.aload_n 0) 1 378 := ⟨by decide +kernel, rfl⟩
theorem eX12_compress64_378 : vD cX12_compress64 378 (.getfield 48) 3 381 := ⟨by decide +kernel, rfl⟩
theorem eX12_compress64_381 : vD cX12_compress64 381 (.iconst 0) 1 382 := ⟨by decide +kernel, rfl⟩
theorem eX12_compress64_382 : vD cX12_compress64 382 .dup2 1 383 := ⟨by decide +kernel, rfl⟩
theorem eX12_compress64_383 : vD cX12_compress64 383 .laload 1 384 := ⟨by decide +kernel, rfl⟩
theorem eX12_compress64_384 : vD cX12_compress64 384 (.lload_n 1) 1 385 := ⟨by decide +kernel, rfl⟩
theorem eX12_compress64_385 : vD cX12_compress64 385 .ladd 1 386 := ⟨by decide +kernel, rfl⟩
theorem eX12_compress64_386 : vD cX12_compress64 386 .lastore 1 387 := ⟨by decide +kernel, rfl⟩
theorem eX12_compress64_387 : vD cX12_compress64 387 (.aload_n 0) 1 388 := ⟨by decide +kernel, rfl⟩
theorem eX12_compress64_388 : vD cX12_compress64 388 (.getfield 48) 3 391 := ⟨by decide +kernel, rfl⟩
theorem eX12_compress64_391 : vD cX12_compress64 391 (.iconst 1) 1 392 := ⟨by decide +kernel, rfl⟩
theorem eX12_compress64_392 : vD cX12_compress64 392 .dup2 1 393 := ⟨by decide +kernel, rfl⟩
theorem eX12_compress64_393 : vD cX12_compress64 393 .laload 1 394 := ⟨by decide +kernel, rfl⟩
theorem eX12_compress64_394 : vD cX12_compress64 394 (.lload_n 3) 1 395 := ⟨by decide +kernel, rfl⟩
theorem eX12_compress64_395 : vD cX12_compress64 395 .ladd 1 396 := ⟨by decide +kernel, rfl⟩
theorem eX12_compress64_396 : vD cX12_compress64 396 .lastore 1 397 := ⟨by decide +kernel, rfl⟩
theorem eX12_compress64_397 : vD cX12_compress64 397 (.aload_n 0) 1 398 := ⟨by decide +kernel, rfl⟩
theorem eX12_compress64_398 : vD cX12_compress64 398 (.getfield 48) 3 401 := ⟨by decide +kernel, rfl⟩
theorem eX12_compress64_401 : vD cX12_compress64 401 (.iconst 2) 1 402 := ⟨by decide +kernel, rfl⟩
theorem eX12_compress64_402 : vD cX12_compress64 402 .dup2 1 403 := ⟨by decide +kernel, rfl⟩
theorem eX12_compress64_403 : vD cX12_compress64 403 .laload 1 404 := ⟨by decide +kernel, rfl⟩
theorem eX12_compress64_404 : vD cX12_compress64 404 (.lload 5) 2 406 := ⟨by decide +kernel, rfl⟩
theorem eX12_compress64_406 : vD cX12_compress64 406 .ladd 1 407 := ⟨by decide +kernel, rfl⟩
theorem eX12_compress64_407 : vD cX12_compress64 407 .lastore 1 408 := ⟨by decide +kernel, rfl⟩
theorem eX12_compress64_408 : vD cX12_compress64 408 (.aload_n 0) 1 409 := ⟨by decide +kernel, rfl⟩
theorem eX12_compress64_409 : vD cX12_compress64 409 (.getfield 48) 3 412 := ⟨by decide +kernel, rfl⟩
theorem eX12_compress64_412 : vD cX12_compress64 412 (.iconst 3) 1 413 := ⟨by decide +kernel, rfl⟩
theorem eX12_compress64_413 : vD cX12_compress64 413 .dup2 1 414 := ⟨by decide +kernel, rfl⟩
theorem eX12_compress64_414 : vD cX12_compress64 414 .laload 1 415 := ⟨by decide +kernel, rfl⟩
theorem eX12_compress64_415 : vD cX12_compress64 415 (.lload 7) 2 417 := ⟨by decide +kernel, rfl⟩
theorem eX12_compress64_417 : vD cX12_compress64 417 .ladd 1 418 := ⟨by decide +kernel, rfl⟩
theorem eX12_compress64_418 : vD cX12_compress64 418 .lastore 1 419 := ⟨by decide +kernel, rfl⟩
theorem eX12_compress64_419 : vD cX12_compress64 419 (.aload_n 0) 1 420 := ⟨by decide +kernel, rfl⟩
theorem eX12_compress64_420 : vD cX12_compress64 420 (.getfield 48) 3 423 := ⟨by decide +kernel, rfl⟩
theorem eX12_compress64_423 : vD cX12_compress64 423 (.iconst 4) 1 424 := ⟨by decide +kernel, rfl⟩
theorem eX12_compress64_424 : vD cX12_compress64 424 .dup2 1 425 := ⟨by decide +kernel, rfl⟩
theorem eX12_compress64_425 : vD cX12_compress64 425 .laload 1 426 := ⟨by decide +kernel, rfl⟩
theorem eX12_compress64_426 : vD cX12_compress64 426 (.lload 9) 2 428 := ⟨by decide +kernel, rfl⟩
theorem eX12_compress64_428 : vD cX12_compress64 428 .ladd 1 429 := ⟨by decide +kernel, rfl⟩
theorem eX12_compress64_429 : vD cX12_compress64 429 .lastore 1 430 := ⟨by decide +kernel, rfl⟩
theorem eX12_compress64_430 : vD cX12_compress64 430 (.aload_n 0) 1 431 := ⟨by decide +kernel, rfl⟩
theorem eX12_compress64_431 : vD cX12_compress64 431 (.getfield 48) 3 434 := ⟨by decide +kernel, rfl⟩
theorem eX12_compress64_434 : vD cX12_compress64 434 (.iconst 5) 1 435 := ⟨by decide +kernel, rfl⟩
theorem eX12_compress64_435 : vD cX12_compress64 435 .dup2 1 436 := ⟨by decide +kernel, rfl⟩
theorem eX12_compress64_436 : vD cX12_compress64 436 .laload 1 437 := ⟨by decide +kernel, rfl⟩
theorem eX12_compress64_437 : vD cX12_compress64 437 (.lload 11) 2 439 := ⟨by decide +kernel, rfl⟩
theorem eX12_compress64_439 : vD cX12_compress64 439 .ladd 1 440 := ⟨by decide +kernel, rfl⟩
theorem eX12_compress64_440 : vD cX12_compress64 440 .lastore 1 441 := ⟨by decide +kernel, rfl⟩
theorem eX12_compress64_441 : vD cX12_compress64 441 (.aload_n 0) 1 442 := ⟨by decide +kernel, rfl⟩
theorem eX12_compress64_442 : vD cX12_compress64 442 (.getfield 48) 3 445 := ⟨by decide +kernel, rfl⟩
theorem eX12_compress64_445 : vD cX12_compress64 445 (.bipush 6) 2 447 := ⟨by decide +kernel, rfl⟩
theorem eX12_compress64_447 : vD cX12_compress64 447 .dup2 1 448 := ⟨by decide +kernel, rfl⟩
theorem eX12_compress64_448 : vD cX12_compress64 448 .laload 1 449 := ⟨by decide +kernel, rfl⟩
theorem eX12_compress64_449 : vD cX12_compress64 449 (.lload 13) 2 451 := ⟨by decide +kernel, rfl⟩
theorem eX12_compress64_451 : vD cX12_compress64 451 .ladd 1 452 := ⟨by decide +kernel, rfl⟩
theorem eX12_compress64_452 : vD cX12_compress64 452 .lastore 1 453 := ⟨by decide +kernel, rfl⟩
theorem eX12_compress64_453 : vD cX12_compress64 453 (.aload_n 0) 1 454 := ⟨by decide +kernel, rfl⟩
theorem eX12_compress64_454 : vD cX12_compress64 454 (.getfield 48) 3 457 := ⟨by decide +kernel, rfl⟩
theorem eX12_compress64_457 : vD cX12_compress64 457 (.bipush 7) 2 459 := ⟨by decide +kernel, rfl⟩
theorem eX12_compress64_459 : vD cX12_compress64 459 .dup2 1 460 := ⟨by decide +kernel, rfl⟩
theorem eX12_compress64_460 : vD cX12_compress64 460 .laload 1 461 := ⟨by decide +kernel, rfl⟩
theorem eX12_compress64_461 : vD cX12_compress64 461 (.lload 15) 2 463 := ⟨by decide +kernel, rfl⟩
theorem eX12_compress64_463 : vD cX12_compress64 463 .ladd 1 464 := ⟨by decide +kernel, rfl⟩
theorem eX12_compress64_464 : vD cX12_compress64 464 .lastore 1 465 := ⟨by decide +kernel, rfl⟩
theorem eX12_compress64_465 : vD cX12_compress64 465 .return_ 1 466 := ⟨by decide +kernel, rfl⟩

/-! THE REFERENCE'S COMPRESSIONS, as its loops go. Bk: the block, Wd: the words, K: the cube roots, S: the state -/
abbrev q64 : Type := Int64 × Int64 × Int64 × Int64 × Int64 × Int64 × Int64 × Int64
def q64g (q : q64) (i : Nat) : Int64 := match i with
  | 0 => q.1 | 1 => q.2.1 | 2 => q.2.2.1 | 3 => q.2.2.2.1 | 4 => q.2.2.2.2.1 | 5 => q.2.2.2.2.2.1 | 6 => q.2.2.2.2.2.2.1 | _ => q.2.2.2.2.2.2.2
def us64 (x : Int64) (n : Int32) : Int64 := (x.toUInt64 >>> (n.toInt64.toUInt64 &&& Int64.toUInt64 63)).toInt64
def c64L1 (Bk : Nat → Int32) (i : Nat) (w : Nat → Int64) (n : Nat) : Nat → Int64 := itN (fun k w => vp_updL w i ((w i <<< ((8 : Int32).toInt64 &&& 63)) ||| ((Bk (8 * i + k)).toInt64 &&& 255))) n (vp_updL w i 0)
def c64L (Bk : Nat → Int32) (n : Nat) (w : Nat → Int64) : Nat → Int64 := itN (fun i w => c64L1 Bk i w 8) n w
def c64X1 (i : Nat) (w : Nat → Int64) : Nat → Int64 := vp_updL w i ((rrR (w (i - 2)) 19 ^^^ rrR (w (i - 2)) 61 ^^^ us64 (w (i - 2)) 6) + w (i - 7) + (rrR (w (i - 15)) 1 ^^^ rrR (w (i - 15)) 8 ^^^ us64 (w (i - 15)) 7) + w (i - 16))
def c64X (n : Nat) (w : Nat → Int64) : Nat → Int64 := itN (fun j w => c64X1 (16 + j) w) n w
def c64x (K Wd : Nat → Int64) (i : Nat) (q : q64) : Int64 := match q with
  | (_, _, _, _, e, f, g, h) => h + ((rrR e 14 ^^^ rrR e 18) ^^^ rrR e 41) + ((e &&& f) ^^^ ((e ^^^ (-1)) &&& g)) + K i + Wd i
def c64y (q : q64) : Int64 := match q with
  | (a, b, c, _, _, _, _, _) => ((rrR a 28 ^^^ rrR a 34) ^^^ rrR a 39) + (((a &&& b) ^^^ (a &&& c)) ^^^ (b &&& c))
def c64R (K Wd : Nat → Int64) (i : Nat) (q : q64) : q64 := match q with
  | (a, b, c, d, e, f, g, h) => (c64x K Wd i (a, b, c, d, e, f, g, h) + c64y (a, b, c, d, e, f, g, h), a, b, c, d + c64x K Wd i (a, b, c, d, e, f, g, h), e, f, g)
def c64A (q : q64) (n : Nat) (S : Nat → Int64) : Nat → Int64 := itN (fun i S => vp_updL S i (S i + q64g q i)) n S
def c64W (Bk : Nat → Int32) (w : Nat → Int64) : Nat → Int64 := c64X 64 (c64L Bk 16 w)
/-- SHA-512's compression: the state behind a block -/
def c64 (K : Nat → Int64) (Bk : Nat → Int32) (w S : Nat → Int64) : Nat → Int64 := c64A (itN (c64R K (c64W Bk w)) 80 (S 0, S 1, S 2, S 3, S 4, S 5, S 6, S 7)) 8 S
section M2
variable {G : vG} {B : Nat} {l : Launch} {ad : Nat → Nat} {N : Nat}
set_option maxRecDepth 100000 in
set_option maxHeartbeats 4000000 in
theorem c64_1 (I : nI1 ad N) (hN : ∀ k, k < 74 → k < N) {σ : nS} {p : Program} {e : Env} {R : Room} {s : State} {m : MethodId} {args : Array Value} {below : List Frame} {meth : Method} {c : Code} {cells slots : Nat} {Q : State → Prop} (C : vC G B p m meth c cX12_compress64 22 none s args yX12_compress64.cls) {x : Nat → Int32} {t : Int64} {S w K : Nat → Int64} {Bk : Nat → Int32} (h49 : σ 49 = eO 9 (mO ad x t)) (h17 : σ 17 = eB G 128 Bk) (h6 : σ 6 = eJ G 80 K) (kk : V G B p l e R s m args below meth c 22 cells slots Q (nW ad N (va_up (va_up σ 13 (eJ G 25 S)) 16 (eJ G 80 (c64L Bk 16 w)))) 67 [(0, .ref (ad 49))] []) : V G B p l e R s m args below meth c 22 cells slots Q (nW ad N (va_up (va_up σ 13 (eJ G 25 S)) 16 (eJ G 80 w))) 0 [(0, .ref (ad 49))] [] := by
  refine v_iconst (v := (0 : Int32)) C eX12_compress64_0 (by decide) ?_
  refine v_istore_n (lv' := [(0, .ref (ad 49)), (1, .int ((0 : Int32)))]) C eX12_compress64_1 rfl (by decide) [1, 0] rfl ?_
  refine v_forV (fun i => va_up (va_up σ 13 (eJ G 25 S)) 16 (eJ G 80 (c64L Bk i w))) (fun i => [(0, .ref (ad 49)), (1, .int (nI i))]) 16 ?_ ?_
  · refine v_iload_n C eX12_compress64_2 rfl 1 rfl ?_
    refine v_bipush (v := (16 : Int32)) C eX12_compress64_3 (by decide) ?_
    refine v_icmp_ge (tgt := 67) C eX12_compress64_5 (by decide) (fun _ => ?_) (fun h => absurd (ix_le (a := 16) (b := 16) (rfl : (16 : Int32) = nI 16) (rfl : nI 16 = nI 16) (by omega) (by omega) (by omega)) h)
    refine v_pick (lv' := [(0, .ref (ad 49))]) [0] rfl ?_
    exact kk
  · intro i hi ihi
    refine v_iload_n C eX12_compress64_2 rfl 1 rfl ?_
    refine v_bipush (v := (16 : Int32)) C eX12_compress64_3 (by decide) ?_
    refine v_icmp_ge (tgt := 67) C eX12_compress64_5 (by decide) (fun h => absurd h (ix_nle (a := 16) (b := i) (rfl : (16 : Int32) = nI 16) (rfl : nI i = nI i) (by omega) (by omega) (by omega))) (fun _ => ?_)
    refine v_aload_n C eX12_compress64_8 rfl 0 rfl ?_
    refine n_get C I fX12_57_X12 eX12_compress64_9 (hN 49 (by decide)) h49 rfl ?_
    refine v_iload_n C eX12_compress64_12 rfl 1 rfl ?_
    refine v_lconst (v := (0 : Int64)) C eX12_compress64_13 (by decide) ?_
    refine n_last C I eX12_compress64_14 (hN 16 (by decide)) rfl i (rfl : nI i = nI i) (by omega) (by decide) ?_
    refine v_iconst (v := (0 : Int32)) C eX12_compress64_15 (by decide) ?_
    refine v_istore_n (lv' := [(0, .ref (ad 49)), (1, .int (nI i)), (2, .int ((0 : Int32)))]) C eX12_compress64_16 rfl (by decide) [1, 2, 0] rfl ?_
    refine v_eq (w' := nW ad N (va_up (va_up (va_up σ 13 (eJ G 25 S)) 16 (eJ G 80 (c64L Bk i w))) 16 (eJ G 80 (c64L1 Bk i (c64L Bk i w) 0)))) rfl rfl rfl ?_
    refine v_eq (w' := nW ad N (va_up (va_up σ 13 (eJ G 25 S)) 16 (eJ G 80 (c64L1 Bk i (c64L Bk i w) 0)))) (congrArg (nW ad N) (n_extL [13, 16] ⟨rfl, rfl, trivial⟩ (fun q h => by simp only [List.mem_cons, List.not_mem_nil, or_false, not_or] at h; simp [va_up, h]))) rfl rfl ?_
    refine v_forV (fun k => va_up (va_up σ 13 (eJ G 25 S)) 16 (eJ G 80 (c64L1 Bk i (c64L Bk i w) k))) (fun k => [(0, .ref (ad 49)), (1, .int (nI i)), (2, .int (nI k))]) 8 ?_ ?_
    · refine v_iload_n C eX12_compress64_17 rfl 2 rfl ?_
      refine v_bipush (v := (8 : Int32)) C eX12_compress64_18 (by decide) ?_
      refine v_icmp_ge (tgt := 61) C eX12_compress64_20 (by decide) (fun _ => ?_) (fun h => absurd (ix_le (a := 8) (b := 8) (rfl : (8 : Int32) = nI 8) (rfl : nI 8 = nI 8) (by omega) (by omega) (by omega)) h)
      refine v_iinc (lv' := [(0, .ref (ad 49)), (1, .int (nI (i + 1))), (2, .int (nI 8))]) C eX12_compress64_61 1 rfl (ix_inc _) (by decide) [1, 0, 2] rfl ?_
      refine v_goto (tgt := 2) C eX12_compress64_64 (by decide) ?_
      refine v_pick (lv' := [(0, .ref (ad 49)), (1, .int (nI (i + 1)))]) [0, 1] rfl ?_
      exact ihi
    · intro k hk ihk
      refine v_iload_n C eX12_compress64_17 rfl 2 rfl ?_
      refine v_bipush (v := (8 : Int32)) C eX12_compress64_18 (by decide) ?_
      refine v_icmp_ge (tgt := 61) C eX12_compress64_20 (by decide) (fun h => absurd h (ix_nle (a := 8) (b := k) (rfl : (8 : Int32) = nI 8) (rfl : nI k = nI k) (by omega) (by omega) (by omega))) (fun _ => ?_)
      refine v_aload_n C eX12_compress64_23 rfl 0 rfl ?_
      refine n_get C I fX12_57_X12 eX12_compress64_24 (hN 49 (by decide)) h49 rfl ?_
      refine v_iload_n C eX12_compress64_27 rfl 1 rfl ?_
      refine v_aload_n C eX12_compress64_28 rfl 0 rfl ?_
      refine n_get C I fX12_57_X12 eX12_compress64_29 (hN 49 (by decide)) h49 rfl ?_
      refine v_iload_n C eX12_compress64_32 rfl 1 rfl ?_
      refine n_lald C I eX12_compress64_33 (hN 16 (by decide)) rfl i (rfl : nI i = nI i) (by omega) (by decide) ?_
      refine v_bipush (v := (8 : Int32)) C eX12_compress64_34 (by decide) ?_
      refine v_lshl C eX12_compress64_36 ?_
      refine v_aload_n C eX12_compress64_37 rfl 0 rfl ?_
      refine n_get C I fX12_60_X12 eX12_compress64_38 (hN 49 (by decide)) h49 rfl ?_
      refine v_bipush (v := (8 : Int32)) C eX12_compress64_41 (by decide) ?_
      refine v_iload_n C eX12_compress64_43 rfl 1 rfl ?_
      refine v_imul C eX12_compress64_44 ?_
      refine v_iload_n C eX12_compress64_45 rfl 2 rfl ?_
      refine v_iadd C eX12_compress64_46 ?_
      refine n_bald C I eX12_compress64_47 (hN 17 (by decide)) h17 ((8 * i) + k) (ix_add (a := 8 * i) (b := k) (ix_mul (a := 8) (b := i) (rfl : (8 : Int32) = nI 8) (rfl : nI i = nI i)) (rfl : nI k = nI k)) (by omega) (by decide) ?_
      refine v_i2l C eX12_compress64_48 ?_
      refine v_ldc2 (v := (255 : Int64)) C eX12_compress64_49 vw_1146 ?_
      refine v_land C eX12_compress64_52 ?_
      refine v_lor C eX12_compress64_53 ?_
      refine n_last C I eX12_compress64_54 (hN 16 (by decide)) rfl i (rfl : nI i = nI i) (by omega) (by decide) ?_
      refine v_iinc (lv' := [(0, .ref (ad 49)), (1, .int (nI i)), (2, .int (nI (k + 1)))]) C eX12_compress64_55 2 rfl (ix_inc _) (by decide) [1, 2, 0] rfl ?_
      refine v_goto (tgt := 17) C eX12_compress64_58 (by decide) ?_
      refine v_eq (w' := nW ad N (va_up (va_up σ 13 (eJ G 25 S)) 16 (eJ G 80 (vp_updL (c64L1 Bk i (c64L Bk i w) k) i ((((c64L1 Bk i (c64L Bk i w) k) i) <<< (((8 : Int32)).toInt64 &&& 63)) ||| (((Bk ((8 * i) + k)).toInt64) &&& ((255 : Int64)))))))) (congrArg (nW ad N) (n_extL [13, 16] ⟨rfl, rfl, trivial⟩ (fun q h => by simp only [List.mem_cons, List.not_mem_nil, or_false, not_or] at h; simp [va_up, h]))) rfl rfl ?_
      exact ihk

set_option maxRecDepth 100000 in
set_option maxHeartbeats 4000000 in
theorem c64_2 (I : nI1 ad N) (hN : ∀ k, k < 74 → k < N) {σ : nS} {p : Program} {e : Env} {R : Room} {s : State} {m : MethodId} {args : Array Value} {below : List Frame} {meth : Method} {c : Code} {cells slots : Nat} {Q : State → Prop} (C : vC G B p m meth c cX12_compress64 22 none s args yX12_compress64.cls) {x : Nat → Int32} {t : Int64} {S w K : Nat → Int64} {Bk : Nat → Int32} (h49 : σ 49 = eO 9 (mO ad x t)) (h17 : σ 17 = eB G 128 Bk) (h6 : σ 6 = eJ G 80 K) {d1 mc1 ms1 : Nat} (hR : R = vRm d1 mc1 ms1) (hdd : 0 + 1 ≤ d1) (hrc : cells + 0 ≤ mc1) (hrs : slots + 0 ≤ ms1) (kk : V G B p l e R s m args below meth c 22 cells slots Q (nW ad N (va_up (va_up σ 13 (eJ G 25 S)) 16 (eJ G 80 (c64X 64 w)))) 167 [(0, .ref (ad 49))] []) : V G B p l e R s m args below meth c 22 cells slots Q (nW ad N (va_up (va_up σ 13 (eJ G 25 S)) 16 (eJ G 80 w))) 67 [(0, .ref (ad 49))] [] := by
  refine v_bipush (v := (16 : Int32)) C eX12_compress64_67 (by decide) ?_
  refine v_istore_n (lv' := [(0, .ref (ad 49)), (1, .int ((16 : Int32)))]) C eX12_compress64_69 rfl (by decide) [1, 0] rfl ?_
  refine v_forV (fun j => va_up (va_up σ 13 (eJ G 25 S)) 16 (eJ G 80 (c64X j w))) (fun j => [(0, .ref (ad 49)), (1, .int (nI (16 + j)))]) 64 ?_ ?_
  · refine v_iload_n C eX12_compress64_70 rfl 1 rfl ?_
    refine v_bipush (v := (80 : Int32)) C eX12_compress64_71 (by decide) ?_
    refine v_icmp_ge (tgt := 167) C eX12_compress64_73 (by decide) (fun _ => ?_) (fun h => absurd (ix_le (a := 80) (b := 16 + 64) (rfl : (80 : Int32) = nI 80) (rfl : nI (16 + 64) = nI (16 + 64)) (by omega) (by omega) (by omega)) h)
    refine v_pick (lv' := [(0, .ref (ad 49))]) [0] rfl ?_
    exact kk
  · intro j hj ihj
    refine v_iload_n C eX12_compress64_70 rfl 1 rfl ?_
    refine v_bipush (v := (80 : Int32)) C eX12_compress64_71 (by decide) ?_
    refine v_icmp_ge (tgt := 167) C eX12_compress64_73 (by decide) (fun h => absurd h (ix_nle (a := 80) (b := 16 + j) (rfl : (80 : Int32) = nI 80) (rfl : nI (16 + j) = nI (16 + j)) (by omega) (by omega) (by omega))) (fun _ => ?_)
    refine v_aload_n C eX12_compress64_76 rfl 0 rfl ?_
    refine n_get C I fX12_57_X12 eX12_compress64_77 (hN 49 (by decide)) h49 rfl ?_
    refine v_iload_n C eX12_compress64_80 rfl 1 rfl ?_
    refine v_iconst (v := (2 : Int32)) C eX12_compress64_81 (by decide) ?_
    refine v_isub C eX12_compress64_82 ?_
    refine n_lald C I eX12_compress64_83 (hN 16 (by decide)) rfl ((16 + j) - 2) (ix_sub (a := 16 + j) (b := 2) (rfl : nI (16 + j) = nI (16 + j)) (rfl : (2 : Int32) = nI 2) (by omega)) (by omega) (by decide) ?_
    refine v_lstore_n (lv' := [(0, .ref (ad 49)), (1, .int (nI (16 + j))), (2, .long ((c64X j w) ((16 + j) - 2)))]) C eX12_compress64_84 rfl (by decide) [1, 2, 0] rfl ?_
    refine v_aload_n C eX12_compress64_85 rfl 0 rfl ?_
    refine n_get C I fX12_57_X12 eX12_compress64_86 (hN 49 (by decide)) h49 rfl ?_
    refine v_iload_n C eX12_compress64_89 rfl 1 rfl ?_
    refine v_bipush (v := (15 : Int32)) C eX12_compress64_90 (by decide) ?_
    refine v_isub C eX12_compress64_92 ?_
    refine n_lald C I eX12_compress64_93 (hN 16 (by decide)) rfl ((16 + j) - 15) (ix_sub (a := 16 + j) (b := 15) (rfl : nI (16 + j) = nI (16 + j)) (rfl : (15 : Int32) = nI 15) (by omega)) (by omega) (by decide) ?_
    refine v_lstore (lv' := [(0, .ref (ad 49)), (1, .int (nI (16 + j))), (2, .long ((c64X j w) ((16 + j) - 2))), (4, .long ((c64X j w) ((16 + j) - 15)))]) C eX12_compress64_94 (by decide) [1, 2, 3, 0] rfl ?_
    refine v_aload_n C eX12_compress64_96 rfl 0 rfl ?_
    refine n_get C I fX12_57_X12 eX12_compress64_97 (hN 49 (by decide)) h49 rfl ?_
    refine v_iload_n C eX12_compress64_100 rfl 1 rfl ?_
    refine v_lload_n C eX12_compress64_101 rfl 2 rfl ?_
    refine v_bipush (v := (19 : Int32)) C eX12_compress64_102 (by decide) ?_
    refine n_callS (av := [.long ((c64X j w) ((16 + j) - 2)), .int ((19 : Int32))]) (rest := [.int (nI (16 + j)), .ref (ad 16)]) C mX12_221 (c_right ((c64X j w) ((16 + j) - 2)) ((19 : Int32))) hR hdd (by decide) ⟨hrc, hrs⟩ rfl rfl (Nat.le_of_ble_eq_true rfl) eX12_compress64_104 (fun r σ' hp => ?_)
    obtain ⟨rfl, rfl⟩ := hp
    refine v_lload_n C eX12_compress64_107 rfl 2 rfl ?_
    refine v_bipush (v := (61 : Int32)) C eX12_compress64_108 (by decide) ?_
    refine n_callS (av := [.long ((c64X j w) ((16 + j) - 2)), .int ((61 : Int32))]) (rest := [.long (rrR ((c64X j w) ((16 + j) - 2)) ((19 : Int32))), .int (nI (16 + j)), .ref (ad 16)]) C mX12_221 (c_right ((c64X j w) ((16 + j) - 2)) ((61 : Int32))) hR hdd (by decide) ⟨hrc, hrs⟩ rfl rfl (Nat.le_of_ble_eq_true rfl) eX12_compress64_110 (fun r σ' hp => ?_)
    obtain ⟨rfl, rfl⟩ := hp
    refine v_lxor C eX12_compress64_113 ?_
    refine v_lload_n C eX12_compress64_114 rfl 2 rfl ?_
    refine v_bipush (v := (6 : Int32)) C eX12_compress64_115 (by decide) ?_
    refine v_lushr C eX12_compress64_117 ?_
    refine v_lxor C eX12_compress64_118 ?_
    refine v_aload_n C eX12_compress64_119 rfl 0 rfl ?_
    refine n_get C I fX12_57_X12 eX12_compress64_120 (hN 49 (by decide)) h49 rfl ?_
    refine v_iload_n C eX12_compress64_123 rfl 1 rfl ?_
    refine v_bipush (v := (7 : Int32)) C eX12_compress64_124 (by decide) ?_
    refine v_isub C eX12_compress64_126 ?_
    refine n_lald C I eX12_compress64_127 (hN 16 (by decide)) rfl ((16 + j) - 7) (ix_sub (a := 16 + j) (b := 7) (rfl : nI (16 + j) = nI (16 + j)) (rfl : (7 : Int32) = nI 7) (by omega)) (by omega) (by decide) ?_
    refine v_ladd C eX12_compress64_128 ?_
    refine v_lload C eX12_compress64_129 3 rfl ?_
    refine v_iconst (v := (1 : Int32)) C eX12_compress64_131 (by decide) ?_
    refine n_callS (av := [.long ((c64X j w) ((16 + j) - 15)), .int ((1 : Int32))]) (rest := [.long ((((rrR ((c64X j w) ((16 + j) - 2)) ((19 : Int32))) ^^^ (rrR ((c64X j w) ((16 + j) - 2)) ((61 : Int32)))) ^^^ ((((c64X j w) ((16 + j) - 2)).toUInt64 >>> (((6 : Int32)).toInt64.toUInt64 &&& Int64.toUInt64 63)).toInt64)) + ((c64X j w) ((16 + j) - 7))), .int (nI (16 + j)), .ref (ad 16)]) C mX12_221 (c_right ((c64X j w) ((16 + j) - 15)) ((1 : Int32))) hR hdd (by decide) ⟨hrc, hrs⟩ rfl rfl (Nat.le_of_ble_eq_true rfl) eX12_compress64_132 (fun r σ' hp => ?_)
    obtain ⟨rfl, rfl⟩ := hp
    refine v_lload C eX12_compress64_135 3 rfl ?_
    refine v_bipush (v := (8 : Int32)) C eX12_compress64_137 (by decide) ?_
    refine n_callS (av := [.long ((c64X j w) ((16 + j) - 15)), .int ((8 : Int32))]) (rest := [.long (rrR ((c64X j w) ((16 + j) - 15)) ((1 : Int32))), .long ((((rrR ((c64X j w) ((16 + j) - 2)) ((19 : Int32))) ^^^ (rrR ((c64X j w) ((16 + j) - 2)) ((61 : Int32)))) ^^^ ((((c64X j w) ((16 + j) - 2)).toUInt64 >>> (((6 : Int32)).toInt64.toUInt64 &&& Int64.toUInt64 63)).toInt64)) + ((c64X j w) ((16 + j) - 7))), .int (nI (16 + j)), .ref (ad 16)]) C mX12_221 (c_right ((c64X j w) ((16 + j) - 15)) ((8 : Int32))) hR hdd (by decide) ⟨hrc, hrs⟩ rfl rfl (Nat.le_of_ble_eq_true rfl) eX12_compress64_139 (fun r σ' hp => ?_)
    obtain ⟨rfl, rfl⟩ := hp
    refine v_lxor C eX12_compress64_142 ?_
    refine v_lload C eX12_compress64_143 3 rfl ?_
    refine v_bipush (v := (7 : Int32)) C eX12_compress64_145 (by decide) ?_
    refine v_lushr C eX12_compress64_147 ?_
    refine v_lxor C eX12_compress64_148 ?_
    refine v_ladd C eX12_compress64_149 ?_
    refine v_aload_n C eX12_compress64_150 rfl 0 rfl ?_
    refine n_get C I fX12_57_X12 eX12_compress64_151 (hN 49 (by decide)) h49 rfl ?_
    refine v_iload_n C eX12_compress64_154 rfl 1 rfl ?_
    refine v_bipush (v := (16 : Int32)) C eX12_compress64_155 (by decide) ?_
    refine v_isub C eX12_compress64_157 ?_
    refine n_lald C I eX12_compress64_158 (hN 16 (by decide)) rfl ((16 + j) - 16) (ix_sub (a := 16 + j) (b := 16) (rfl : nI (16 + j) = nI (16 + j)) (rfl : (16 : Int32) = nI 16) (by omega)) (by omega) (by decide) ?_
    refine v_ladd C eX12_compress64_159 ?_
    refine n_last C I eX12_compress64_160 (hN 16 (by decide)) rfl (16 + j) (rfl : nI (16 + j) = nI (16 + j)) (by omega) (by decide) ?_
    refine v_iinc (lv' := [(0, .ref (ad 49)), (1, .int (nI (16 + j + 1))), (2, .long ((c64X j w) ((16 + j) - 2))), (4, .long ((c64X j w) ((16 + j) - 15)))]) C eX12_compress64_161 1 rfl (ix_inc _) (by decide) [1, 0, 2, 3] rfl ?_
    refine v_goto (tgt := 70) C eX12_compress64_164 (by decide) ?_
    refine v_eq (w' := nW ad N (va_up (va_up σ 13 (eJ G 25 S)) 16 (eJ G 80 (vp_updL (c64X j w) (16 + j) ((((((rrR ((c64X j w) ((16 + j) - 2)) ((19 : Int32))) ^^^ (rrR ((c64X j w) ((16 + j) - 2)) ((61 : Int32)))) ^^^ ((((c64X j w) ((16 + j) - 2)).toUInt64 >>> (((6 : Int32)).toInt64.toUInt64 &&& Int64.toUInt64 63)).toInt64)) + ((c64X j w) ((16 + j) - 7))) + (((rrR ((c64X j w) ((16 + j) - 15)) ((1 : Int32))) ^^^ (rrR ((c64X j w) ((16 + j) - 15)) ((8 : Int32)))) ^^^ ((((c64X j w) ((16 + j) - 15)).toUInt64 >>> (((7 : Int32)).toInt64.toUInt64 &&& Int64.toUInt64 63)).toInt64))) + ((c64X j w) ((16 + j) - 16))))))) (congrArg (nW ad N) (n_extL [13, 16] ⟨rfl, rfl, trivial⟩ (fun q h => by simp only [List.mem_cons, List.not_mem_nil, or_false, not_or] at h; simp [va_up, h]))) rfl rfl ?_
    refine v_pick (lv' := [(0, .ref (ad 49)), (1, .int (nI (16 + j + 1)))]) [0, 1] rfl ?_
    exact ihj

set_option maxRecDepth 100000 in
set_option maxHeartbeats 4000000 in
theorem c64_4 (I : nI1 ad N) (hN : ∀ k, k < 74 → k < N) {σ : nS} {p : Program} {e : Env} {R : Room} {s : State} {m : MethodId} {args : Array Value} {below : List Frame} {meth : Method} {c : Code} {cells slots : Nat} {Q : State → Prop} (C : vC G B p m meth c cX12_compress64 22 none s args yX12_compress64.cls) {x : Nat → Int32} {t : Int64} {S w K : Nat → Int64} {Bk : Nat → Int32} (h49 : σ 49 = eO 9 (mO ad x t)) (h17 : σ 17 = eB G 128 Bk) (h6 : σ 6 = eJ G 80 K) (i : Nat) (hi : i < 80) (a0 b0 c0 d0 e0 f0 g0 h0 : Int64) {d1 mc1 ms1 : Nat} (hR : R = vRm d1 mc1 ms1) (hdd : 0 + 1 ≤ d1) (hrc : cells + 0 ≤ mc1) (hrs : slots + 0 ≤ ms1) (kk : V G B p l e R s m args below meth c 22 cells slots Q (nW ad N (va_up (va_up σ 13 (eJ G 25 S)) 16 (eJ G 80 w))) 234 [(0, .ref (ad 49)), (1, .long ((c64R K w i (a0, b0, c0, d0, e0, f0, g0, h0)).1)), (3, .long ((c64R K w i (a0, b0, c0, d0, e0, f0, g0, h0)).2.1)), (5, .long ((c64R K w i (a0, b0, c0, d0, e0, f0, g0, h0)).2.2.1)), (7, .long ((c64R K w i (a0, b0, c0, d0, e0, f0, g0, h0)).2.2.2.1)), (9, .long ((c64R K w i (a0, b0, c0, d0, e0, f0, g0, h0)).2.2.2.2.1)), (11, .long ((c64R K w i (a0, b0, c0, d0, e0, f0, g0, h0)).2.2.2.2.2.1)), (13, .long ((c64R K w i (a0, b0, c0, d0, e0, f0, g0, h0)).2.2.2.2.2.2.1)), (15, .long ((c64R K w i (a0, b0, c0, d0, e0, f0, g0, h0)).2.2.2.2.2.2.2)), (17, .int (nI (i + 1)))] []) : V G B p l e R s m args below meth c 22 cells slots Q (nW ad N (va_up (va_up σ 13 (eJ G 25 S)) 16 (eJ G 80 w))) 241 [(0, .ref (ad 49)), (1, .long a0), (3, .long b0), (5, .long c0), (7, .long d0), (9, .long e0), (11, .long f0), (13, .long g0), (15, .long h0), (17, .int (nI i))] [] := by
  refine v_lload C eX12_compress64_241 8 rfl ?_
  refine v_lload C eX12_compress64_243 5 rfl ?_
  refine v_bipush (v := (14 : Int32)) C eX12_compress64_245 (by decide) ?_
  refine n_callS (av := [.long e0, .int ((14 : Int32))]) (rest := [.long h0]) C mX12_221 (c_right e0 ((14 : Int32))) hR hdd (by decide) ⟨hrc, hrs⟩ rfl rfl (Nat.le_of_ble_eq_true rfl) eX12_compress64_247 (fun r σ' hp => ?_)
  obtain ⟨rfl, rfl⟩ := hp
  refine v_lload C eX12_compress64_250 5 rfl ?_
  refine v_bipush (v := (18 : Int32)) C eX12_compress64_252 (by decide) ?_
  refine n_callS (av := [.long e0, .int ((18 : Int32))]) (rest := [.long (rrR e0 ((14 : Int32))), .long h0]) C mX12_221 (c_right e0 ((18 : Int32))) hR hdd (by decide) ⟨hrc, hrs⟩ rfl rfl (Nat.le_of_ble_eq_true rfl) eX12_compress64_254 (fun r σ' hp => ?_)
  obtain ⟨rfl, rfl⟩ := hp
  refine v_lxor C eX12_compress64_257 ?_
  refine v_lload C eX12_compress64_258 5 rfl ?_
  refine v_bipush (v := (41 : Int32)) C eX12_compress64_260 (by decide) ?_
  refine n_callS (av := [.long e0, .int ((41 : Int32))]) (rest := [.long ((rrR e0 ((14 : Int32))) ^^^ (rrR e0 ((18 : Int32)))), .long h0]) C mX12_221 (c_right e0 ((41 : Int32))) hR hdd (by decide) ⟨hrc, hrs⟩ rfl rfl (Nat.le_of_ble_eq_true rfl) eX12_compress64_262 (fun r σ' hp => ?_)
  obtain ⟨rfl, rfl⟩ := hp
  refine v_lxor C eX12_compress64_265 ?_
  refine v_ladd C eX12_compress64_266 ?_
  refine v_lload C eX12_compress64_267 5 rfl ?_
  refine v_lload C eX12_compress64_269 6 rfl ?_
  refine v_land C eX12_compress64_271 ?_
  refine v_lload C eX12_compress64_272 5 rfl ?_
  refine v_ldc2 (v := (-1 : Int64)) C eX12_compress64_274 vw_1154 ?_
  refine v_lxor C eX12_compress64_277 ?_
  refine v_lload C eX12_compress64_278 7 rfl ?_
  refine v_land C eX12_compress64_280 ?_
  refine v_lxor C eX12_compress64_281 ?_
  refine v_ladd C eX12_compress64_282 ?_
  refine v_aload_n C eX12_compress64_283 rfl 0 rfl ?_
  refine n_get C I fX12_27_X12 eX12_compress64_284 (hN 49 (by decide)) h49 rfl ?_
  refine v_iload C eX12_compress64_287 9 rfl ?_
  refine n_lald C I eX12_compress64_289 (hN 6 (by decide)) h6 i (rfl : nI i = nI i) (by omega) (by decide) ?_
  refine v_ladd C eX12_compress64_290 ?_
  refine v_aload_n C eX12_compress64_291 rfl 0 rfl ?_
  refine n_get C I fX12_57_X12 eX12_compress64_292 (hN 49 (by decide)) h49 rfl ?_
  refine v_iload C eX12_compress64_295 9 rfl ?_
  refine n_lald C I eX12_compress64_297 (hN 16 (by decide)) rfl i (rfl : nI i = nI i) (by omega) (by decide) ?_
  refine v_ladd C eX12_compress64_298 ?_
  refine v_topl (fun t1 ht1 => ?_)
  refine v_lstore (lv' := [(0, .ref (ad 49)), (1, .long a0), (3, .long b0), (5, .long c0), (7, .long d0), (9, .long e0), (11, .long f0), (13, .long g0), (15, .long h0), (17, .int (nI i)), (18, .long t1)]) C eX12_compress64_299 (by decide) [1, 2, 3, 4, 5, 6, 7, 8, 9, 10, 0] rfl ?_
  refine v_lload_n C eX12_compress64_301 rfl 1 rfl ?_
  refine v_bipush (v := (28 : Int32)) C eX12_compress64_302 (by decide) ?_
  refine n_callS (av := [.long a0, .int ((28 : Int32))]) (rest := []) C mX12_221 (c_right a0 ((28 : Int32))) hR hdd (by decide) ⟨hrc, hrs⟩ rfl rfl (Nat.le_of_ble_eq_true rfl) eX12_compress64_304 (fun r σ' hp => ?_)
  obtain ⟨rfl, rfl⟩ := hp
  refine v_lload_n C eX12_compress64_307 rfl 1 rfl ?_
  refine v_bipush (v := (34 : Int32)) C eX12_compress64_308 (by decide) ?_
  refine n_callS (av := [.long a0, .int ((34 : Int32))]) (rest := [.long (rrR a0 ((28 : Int32)))]) C mX12_221 (c_right a0 ((34 : Int32))) hR hdd (by decide) ⟨hrc, hrs⟩ rfl rfl (Nat.le_of_ble_eq_true rfl) eX12_compress64_310 (fun r σ' hp => ?_)
  obtain ⟨rfl, rfl⟩ := hp
  refine v_lxor C eX12_compress64_313 ?_
  refine v_lload_n C eX12_compress64_314 rfl 1 rfl ?_
  refine v_bipush (v := (39 : Int32)) C eX12_compress64_315 (by decide) ?_
  refine n_callS (av := [.long a0, .int ((39 : Int32))]) (rest := [.long ((rrR a0 ((28 : Int32))) ^^^ (rrR a0 ((34 : Int32))))]) C mX12_221 (c_right a0 ((39 : Int32))) hR hdd (by decide) ⟨hrc, hrs⟩ rfl rfl (Nat.le_of_ble_eq_true rfl) eX12_compress64_317 (fun r σ' hp => ?_)
  obtain ⟨rfl, rfl⟩ := hp
  refine v_lxor C eX12_compress64_320 ?_
  refine v_lload_n C eX12_compress64_321 rfl 1 rfl ?_
  refine v_lload_n C eX12_compress64_322 rfl 2 rfl ?_
  refine v_land C eX12_compress64_323 ?_
  refine v_lload_n C eX12_compress64_324 rfl 1 rfl ?_
  refine v_lload C eX12_compress64_325 3 rfl ?_
  refine v_land C eX12_compress64_327 ?_
  refine v_lxor C eX12_compress64_328 ?_
  refine v_lload_n C eX12_compress64_329 rfl 2 rfl ?_
  refine v_lload C eX12_compress64_330 3 rfl ?_
  refine v_land C eX12_compress64_332 ?_
  refine v_lxor C eX12_compress64_333 ?_
  refine v_ladd C eX12_compress64_334 ?_
  refine v_topl (fun t2 ht2 => ?_)
  refine v_lstore (lv' := [(0, .ref (ad 49)), (1, .long a0), (3, .long b0), (5, .long c0), (7, .long d0), (9, .long e0), (11, .long f0), (13, .long g0), (15, .long h0), (17, .int (nI i)), (18, .long t1), (20, .long t2)]) C eX12_compress64_335 (by decide) [1, 2, 3, 4, 5, 6, 7, 8, 9, 10, 11, 0] rfl ?_
  refine v_lload C eX12_compress64_337 7 rfl ?_
  refine v_lstore (lv' := [(0, .ref (ad 49)), (1, .long a0), (3, .long b0), (5, .long c0), (7, .long d0), (9, .long e0), (11, .long f0), (13, .long g0), (15, .long g0), (17, .int (nI i)), (18, .long t1), (20, .long t2)]) C eX12_compress64_339 (by decide) [1, 2, 3, 4, 5, 6, 7, 8, 0, 9, 10, 11] rfl ?_
  refine v_lload C eX12_compress64_341 6 rfl ?_
  refine v_lstore (lv' := [(0, .ref (ad 49)), (1, .long a0), (3, .long b0), (5, .long c0), (7, .long d0), (9, .long e0), (11, .long f0), (13, .long f0), (15, .long g0), (17, .int (nI i)), (18, .long t1), (20, .long t2)]) C eX12_compress64_343 (by decide) [1, 2, 3, 4, 5, 6, 7, 0, 8, 9, 10, 11] rfl ?_
  refine v_lload C eX12_compress64_345 5 rfl ?_
  refine v_lstore (lv' := [(0, .ref (ad 49)), (1, .long a0), (3, .long b0), (5, .long c0), (7, .long d0), (9, .long e0), (11, .long e0), (13, .long f0), (15, .long g0), (17, .int (nI i)), (18, .long t1), (20, .long t2)]) C eX12_compress64_347 (by decide) [1, 2, 3, 4, 5, 6, 0, 7, 8, 9, 10, 11] rfl ?_
  refine v_lload C eX12_compress64_349 4 rfl ?_
  refine v_lload C eX12_compress64_351 10 rfl ?_
  refine v_ladd C eX12_compress64_353 ?_
  refine v_topl (fun t3 ht3 => ?_)
  refine v_lstore (lv' := [(0, .ref (ad 49)), (1, .long a0), (3, .long b0), (5, .long c0), (7, .long d0), (9, .long t3), (11, .long e0), (13, .long f0), (15, .long g0), (17, .int (nI i)), (18, .long t1), (20, .long t2)]) C eX12_compress64_354 (by decide) [1, 2, 3, 4, 5, 0, 6, 7, 8, 9, 10, 11] rfl ?_
  refine v_lload C eX12_compress64_356 3 rfl ?_
  refine v_lstore (lv' := [(0, .ref (ad 49)), (1, .long a0), (3, .long b0), (5, .long c0), (7, .long c0), (9, .long t3), (11, .long e0), (13, .long f0), (15, .long g0), (17, .int (nI i)), (18, .long t1), (20, .long t2)]) C eX12_compress64_358 (by decide) [1, 2, 3, 4, 0, 5, 6, 7, 8, 9, 10, 11] rfl ?_
  refine v_lload_n C eX12_compress64_360 rfl 2 rfl ?_
  refine v_lstore (lv' := [(0, .ref (ad 49)), (1, .long a0), (3, .long b0), (5, .long b0), (7, .long c0), (9, .long t3), (11, .long e0), (13, .long f0), (15, .long g0), (17, .int (nI i)), (18, .long t1), (20, .long t2)]) C eX12_compress64_361 (by decide) [1, 2, 3, 0, 4, 5, 6, 7, 8, 9, 10, 11] rfl ?_
  refine v_lload_n C eX12_compress64_363 rfl 1 rfl ?_
  refine v_lstore_n (lv' := [(0, .ref (ad 49)), (1, .long a0), (3, .long a0), (5, .long b0), (7, .long c0), (9, .long t3), (11, .long e0), (13, .long f0), (15, .long g0), (17, .int (nI i)), (18, .long t1), (20, .long t2)]) C eX12_compress64_364 rfl (by decide) [1, 2, 0, 3, 4, 5, 6, 7, 8, 9, 10, 11] rfl ?_
  refine v_lload C eX12_compress64_365 10 rfl ?_
  refine v_lload C eX12_compress64_367 11 rfl ?_
  refine v_ladd C eX12_compress64_369 ?_
  refine v_topl (fun t4 ht4 => ?_)
  refine v_lstore_n (lv' := [(0, .ref (ad 49)), (1, .long t4), (3, .long a0), (5, .long b0), (7, .long c0), (9, .long t3), (11, .long e0), (13, .long f0), (15, .long g0), (17, .int (nI i)), (18, .long t1), (20, .long t2)]) C eX12_compress64_370 rfl (by decide) [1, 0, 2, 3, 4, 5, 6, 7, 8, 9, 10, 11] rfl ?_
  refine v_iinc (lv' := [(0, .ref (ad 49)), (1, .long t4), (3, .long a0), (5, .long b0), (7, .long c0), (9, .long t3), (11, .long e0), (13, .long f0), (15, .long g0), (17, .int (nI (i + 1))), (18, .long t1), (20, .long t2)]) C eX12_compress64_371 9 rfl (ix_inc _) (by decide) [1, 2, 3, 4, 5, 6, 7, 8, 9, 0, 10, 11] rfl ?_
  refine v_goto (tgt := 234) C eX12_compress64_374 (by decide) ?_
  refine v_pick (lv' := [(0, .ref (ad 49)), (1, .long t4), (3, .long a0), (5, .long b0), (7, .long c0), (9, .long t3), (11, .long e0), (13, .long f0), (15, .long g0), (17, .int (nI (i + 1)))]) [0, 1, 2, 3, 4, 5, 6, 7, 8, 9] rfl ?_
  subst ht1
  subst ht2
  subst ht3
  subst ht4
  exact kk

set_option maxRecDepth 100000 in
set_option maxHeartbeats 4000000 in
theorem c64_5 (I : nI1 ad N) (hN : ∀ k, k < 74 → k < N) {σ : nS} {p : Program} {e : Env} {R : Room} {s : State} {m : MethodId} {args : Array Value} {below : List Frame} {meth : Method} {c : Code} {cells slots : Nat} {Q : State → Prop} (C : vC G B p m meth c cX12_compress64 22 none s args yX12_compress64.cls) {x : Nat → Int32} {t : Int64} {S w K : Nat → Int64} {Bk : Nat → Int32} (h49 : σ 49 = eO 9 (mO ad x t)) (h17 : σ 17 = eB G 128 Bk) (h6 : σ 6 = eJ G 80 K) (a0 b0 c0 d0 e0 f0 g0 h0 : Int64) (kk : V G B p l e R s m args below meth c 22 cells slots Q (nW ad N (va_up (va_up σ 13 (eJ G 25 (c64A (a0, b0, c0, d0, e0, f0, g0, h0) 8 S))) 16 (eJ G 80 w))) 465 [(0, .ref (ad 49))] []) : V G B p l e R s m args below meth c 22 cells slots Q (nW ad N (va_up (va_up σ 13 (eJ G 25 S)) 16 (eJ G 80 w))) 377 [(0, .ref (ad 49)), (1, .long a0), (3, .long b0), (5, .long c0), (7, .long d0), (9, .long e0), (11, .long f0), (13, .long g0), (15, .long h0)] [] := by
  refine v_aload_n C eX12_compress64_377 rfl 0 rfl ?_
  refine n_get C I fX12_48_X12 eX12_compress64_378 (hN 49 (by decide)) h49 rfl ?_
  refine v_iconst (v := (0 : Int32)) C eX12_compress64_381 (by decide) ?_
  refine v_dup2_11 C eX12_compress64_382 rfl rfl ?_
  refine n_lald C I eX12_compress64_383 (hN 13 (by decide)) rfl 0 (rfl : (0 : Int32) = nI 0) (by omega) (by decide) ?_
  refine v_lload_n C eX12_compress64_384 rfl 1 rfl ?_
  refine v_ladd C eX12_compress64_385 ?_
  refine n_last C I eX12_compress64_386 (hN 13 (by decide)) rfl 0 (rfl : (0 : Int32) = nI 0) (by omega) (by decide) ?_
  refine v_eq (w' := nW ad N (va_up (va_up σ 13 (eJ G 25 (vp_updL S 0 ((S 0) + a0)))) 16 (eJ G 80 w))) (congrArg (nW ad N) (n_extL [13, 16] ⟨rfl, rfl, trivial⟩ (fun q h => by simp only [List.mem_cons, List.not_mem_nil, or_false, not_or] at h; simp [va_up, h]))) rfl rfl ?_
  refine v_eq (w' := nW ad N (va_up (va_up σ 13 (eJ G 25 (c64A (a0, b0, c0, d0, e0, f0, g0, h0) 1 S))) 16 (eJ G 80 w))) rfl rfl rfl ?_
  refine v_aload_n C eX12_compress64_387 rfl 0 rfl ?_
  refine n_get C I fX12_48_X12 eX12_compress64_388 (hN 49 (by decide)) h49 rfl ?_
  refine v_iconst (v := (1 : Int32)) C eX12_compress64_391 (by decide) ?_
  refine v_dup2_11 C eX12_compress64_392 rfl rfl ?_
  refine n_lald C I eX12_compress64_393 (hN 13 (by decide)) rfl 1 (rfl : (1 : Int32) = nI 1) (by omega) (by decide) ?_
  refine v_lload_n C eX12_compress64_394 rfl 2 rfl ?_
  refine v_ladd C eX12_compress64_395 ?_
  refine n_last C I eX12_compress64_396 (hN 13 (by decide)) rfl 1 (rfl : (1 : Int32) = nI 1) (by omega) (by decide) ?_
  refine v_eq (w' := nW ad N (va_up (va_up σ 13 (eJ G 25 (vp_updL (c64A (a0, b0, c0, d0, e0, f0, g0, h0) 1 S) 1 (((c64A (a0, b0, c0, d0, e0, f0, g0, h0) 1 S) 1) + b0)))) 16 (eJ G 80 w))) (congrArg (nW ad N) (n_extL [13, 16] ⟨rfl, rfl, trivial⟩ (fun q h => by simp only [List.mem_cons, List.not_mem_nil, or_false, not_or] at h; simp [va_up, h]))) rfl rfl ?_
  refine v_eq (w' := nW ad N (va_up (va_up σ 13 (eJ G 25 (c64A (a0, b0, c0, d0, e0, f0, g0, h0) 2 S))) 16 (eJ G 80 w))) rfl rfl rfl ?_
  refine v_aload_n C eX12_compress64_397 rfl 0 rfl ?_
  refine n_get C I fX12_48_X12 eX12_compress64_398 (hN 49 (by decide)) h49 rfl ?_
  refine v_iconst (v := (2 : Int32)) C eX12_compress64_401 (by decide) ?_
  refine v_dup2_11 C eX12_compress64_402 rfl rfl ?_
  refine n_lald C I eX12_compress64_403 (hN 13 (by decide)) rfl 2 (rfl : (2 : Int32) = nI 2) (by omega) (by decide) ?_
  refine v_lload C eX12_compress64_404 3 rfl ?_
  refine v_ladd C eX12_compress64_406 ?_
  refine n_last C I eX12_compress64_407 (hN 13 (by decide)) rfl 2 (rfl : (2 : Int32) = nI 2) (by omega) (by decide) ?_
  refine v_eq (w' := nW ad N (va_up (va_up σ 13 (eJ G 25 (vp_updL (c64A (a0, b0, c0, d0, e0, f0, g0, h0) 2 S) 2 (((c64A (a0, b0, c0, d0, e0, f0, g0, h0) 2 S) 2) + c0)))) 16 (eJ G 80 w))) (congrArg (nW ad N) (n_extL [13, 16] ⟨rfl, rfl, trivial⟩ (fun q h => by simp only [List.mem_cons, List.not_mem_nil, or_false, not_or] at h; simp [va_up, h]))) rfl rfl ?_
  refine v_eq (w' := nW ad N (va_up (va_up σ 13 (eJ G 25 (c64A (a0, b0, c0, d0, e0, f0, g0, h0) 3 S))) 16 (eJ G 80 w))) rfl rfl rfl ?_
  refine v_aload_n C eX12_compress64_408 rfl 0 rfl ?_
  refine n_get C I fX12_48_X12 eX12_compress64_409 (hN 49 (by decide)) h49 rfl ?_
  refine v_iconst (v := (3 : Int32)) C eX12_compress64_412 (by decide) ?_
  refine v_dup2_11 C eX12_compress64_413 rfl rfl ?_
  refine n_lald C I eX12_compress64_414 (hN 13 (by decide)) rfl 3 (rfl : (3 : Int32) = nI 3) (by omega) (by decide) ?_
  refine v_lload C eX12_compress64_415 4 rfl ?_
  refine v_ladd C eX12_compress64_417 ?_
  refine n_last C I eX12_compress64_418 (hN 13 (by decide)) rfl 3 (rfl : (3 : Int32) = nI 3) (by omega) (by decide) ?_
  refine v_eq (w' := nW ad N (va_up (va_up σ 13 (eJ G 25 (vp_updL (c64A (a0, b0, c0, d0, e0, f0, g0, h0) 3 S) 3 (((c64A (a0, b0, c0, d0, e0, f0, g0, h0) 3 S) 3) + d0)))) 16 (eJ G 80 w))) (congrArg (nW ad N) (n_extL [13, 16] ⟨rfl, rfl, trivial⟩ (fun q h => by simp only [List.mem_cons, List.not_mem_nil, or_false, not_or] at h; simp [va_up, h]))) rfl rfl ?_
  refine v_eq (w' := nW ad N (va_up (va_up σ 13 (eJ G 25 (c64A (a0, b0, c0, d0, e0, f0, g0, h0) 4 S))) 16 (eJ G 80 w))) rfl rfl rfl ?_
  refine v_aload_n C eX12_compress64_419 rfl 0 rfl ?_
  refine n_get C I fX12_48_X12 eX12_compress64_420 (hN 49 (by decide)) h49 rfl ?_
  refine v_iconst (v := (4 : Int32)) C eX12_compress64_423 (by decide) ?_
  refine v_dup2_11 C eX12_compress64_424 rfl rfl ?_
  refine n_lald C I eX12_compress64_425 (hN 13 (by decide)) rfl 4 (rfl : (4 : Int32) = nI 4) (by omega) (by decide) ?_
  refine v_lload C eX12_compress64_426 5 rfl ?_
  refine v_ladd C eX12_compress64_428 ?_
  refine n_last C I eX12_compress64_429 (hN 13 (by decide)) rfl 4 (rfl : (4 : Int32) = nI 4) (by omega) (by decide) ?_
  refine v_eq (w' := nW ad N (va_up (va_up σ 13 (eJ G 25 (vp_updL (c64A (a0, b0, c0, d0, e0, f0, g0, h0) 4 S) 4 (((c64A (a0, b0, c0, d0, e0, f0, g0, h0) 4 S) 4) + e0)))) 16 (eJ G 80 w))) (congrArg (nW ad N) (n_extL [13, 16] ⟨rfl, rfl, trivial⟩ (fun q h => by simp only [List.mem_cons, List.not_mem_nil, or_false, not_or] at h; simp [va_up, h]))) rfl rfl ?_
  refine v_eq (w' := nW ad N (va_up (va_up σ 13 (eJ G 25 (c64A (a0, b0, c0, d0, e0, f0, g0, h0) 5 S))) 16 (eJ G 80 w))) rfl rfl rfl ?_
  refine v_aload_n C eX12_compress64_430 rfl 0 rfl ?_
  refine n_get C I fX12_48_X12 eX12_compress64_431 (hN 49 (by decide)) h49 rfl ?_
  refine v_iconst (v := (5 : Int32)) C eX12_compress64_434 (by decide) ?_
  refine v_dup2_11 C eX12_compress64_435 rfl rfl ?_
  refine n_lald C I eX12_compress64_436 (hN 13 (by decide)) rfl 5 (rfl : (5 : Int32) = nI 5) (by omega) (by decide) ?_
  refine v_lload C eX12_compress64_437 6 rfl ?_
  refine v_ladd C eX12_compress64_439 ?_
  refine n_last C I eX12_compress64_440 (hN 13 (by decide)) rfl 5 (rfl : (5 : Int32) = nI 5) (by omega) (by decide) ?_
  refine v_eq (w' := nW ad N (va_up (va_up σ 13 (eJ G 25 (vp_updL (c64A (a0, b0, c0, d0, e0, f0, g0, h0) 5 S) 5 (((c64A (a0, b0, c0, d0, e0, f0, g0, h0) 5 S) 5) + f0)))) 16 (eJ G 80 w))) (congrArg (nW ad N) (n_extL [13, 16] ⟨rfl, rfl, trivial⟩ (fun q h => by simp only [List.mem_cons, List.not_mem_nil, or_false, not_or] at h; simp [va_up, h]))) rfl rfl ?_
  refine v_eq (w' := nW ad N (va_up (va_up σ 13 (eJ G 25 (c64A (a0, b0, c0, d0, e0, f0, g0, h0) 6 S))) 16 (eJ G 80 w))) rfl rfl rfl ?_
  refine v_aload_n C eX12_compress64_441 rfl 0 rfl ?_
  refine n_get C I fX12_48_X12 eX12_compress64_442 (hN 49 (by decide)) h49 rfl ?_
  refine v_bipush (v := (6 : Int32)) C eX12_compress64_445 (by decide) ?_
  refine v_dup2_11 C eX12_compress64_447 rfl rfl ?_
  refine n_lald C I eX12_compress64_448 (hN 13 (by decide)) rfl 6 (rfl : (6 : Int32) = nI 6) (by omega) (by decide) ?_
  refine v_lload C eX12_compress64_449 7 rfl ?_
  refine v_ladd C eX12_compress64_451 ?_
  refine n_last C I eX12_compress64_452 (hN 13 (by decide)) rfl 6 (rfl : (6 : Int32) = nI 6) (by omega) (by decide) ?_
  refine v_eq (w' := nW ad N (va_up (va_up σ 13 (eJ G 25 (vp_updL (c64A (a0, b0, c0, d0, e0, f0, g0, h0) 6 S) 6 (((c64A (a0, b0, c0, d0, e0, f0, g0, h0) 6 S) 6) + g0)))) 16 (eJ G 80 w))) (congrArg (nW ad N) (n_extL [13, 16] ⟨rfl, rfl, trivial⟩ (fun q h => by simp only [List.mem_cons, List.not_mem_nil, or_false, not_or] at h; simp [va_up, h]))) rfl rfl ?_
  refine v_eq (w' := nW ad N (va_up (va_up σ 13 (eJ G 25 (c64A (a0, b0, c0, d0, e0, f0, g0, h0) 7 S))) 16 (eJ G 80 w))) rfl rfl rfl ?_
  refine v_aload_n C eX12_compress64_453 rfl 0 rfl ?_
  refine n_get C I fX12_48_X12 eX12_compress64_454 (hN 49 (by decide)) h49 rfl ?_
  refine v_bipush (v := (7 : Int32)) C eX12_compress64_457 (by decide) ?_
  refine v_dup2_11 C eX12_compress64_459 rfl rfl ?_
  refine n_lald C I eX12_compress64_460 (hN 13 (by decide)) rfl 7 (rfl : (7 : Int32) = nI 7) (by omega) (by decide) ?_
  refine v_lload C eX12_compress64_461 8 rfl ?_
  refine v_ladd C eX12_compress64_463 ?_
  refine n_last C I eX12_compress64_464 (hN 13 (by decide)) rfl 7 (rfl : (7 : Int32) = nI 7) (by omega) (by decide) ?_
  refine v_eq (w' := nW ad N (va_up (va_up σ 13 (eJ G 25 (vp_updL (c64A (a0, b0, c0, d0, e0, f0, g0, h0) 7 S) 7 (((c64A (a0, b0, c0, d0, e0, f0, g0, h0) 7 S) 7) + h0)))) 16 (eJ G 80 w))) (congrArg (nW ad N) (n_extL [13, 16] ⟨rfl, rfl, trivial⟩ (fun q h => by simp only [List.mem_cons, List.not_mem_nil, or_false, not_or] at h; simp [va_up, h]))) rfl rfl ?_
  refine v_eq (w' := nW ad N (va_up (va_up σ 13 (eJ G 25 (c64A (a0, b0, c0, d0, e0, f0, g0, h0) 8 S))) 16 (eJ G 80 w))) rfl rfl rfl ?_
  refine v_pick (lv' := [(0, .ref (ad 49))]) [0] rfl ?_
  exact kk


set_option maxRecDepth 100000 in
set_option maxHeartbeats 4000000 in
theorem c_compress64 (I : nI1 ad N) (hN : ∀ k, k < 74 → k < N) {σ : nS} {x : Nat → Int32} {t : Int64} {S w K : Nat → Int64} {Bk : Nat → Int32} (h13 : σ 13 = eJ G 25 S) (h16 : σ 16 = eJ G 80 w) (h49 : σ 49 = eO 9 (mO ad x t)) (h17 : σ 17 = eB G 128 Bk) (h6 : σ 6 = eJ G 80 K) : nOk G B l ad N yX12_compress64 cX12_compress64 22 none 1 0 0 [.ref (ad 49)] σ (fun r σ' => r = none ∧ σ' = va_up (va_up σ 13 (eJ G 25 (c64 K Bk w S))) 16 (eJ G 80 (c64W Bk w))) := by
  refine vOk.of (by decide +kernel) (Nat.le_of_ble_eq_true rfl) ?_
  intro p e s m args below meth c C
  refine v_eq (lv' := [(0, .ref (ad 49))]) rfl rfl rfl ?_
  refine v_eq (w' := nW ad N (va_up (va_up σ 13 (eJ G 25 S)) 16 (eJ G 80 w))) (congrArg (nW ad N) (n_extL [13, 16] ⟨h13, h16, trivial⟩ (fun q h => by simp only [List.mem_cons, List.not_mem_nil, or_false, not_or] at h; simp [va_up, h]))) rfl rfl ?_
  refine c64_1 I hN C h49 h17 h6 ?_
  refine c64_2 I hN C h49 h17 h6 rfl (by decide) (by decide) (by decide) ?_
  refine v_eq (w' := nW ad N (va_up (va_up σ 13 (eJ G 25 S)) 16 (eJ G 80 (c64W Bk w)))) rfl rfl rfl ?_
  refine v_aload_n C eX12_compress64_167 rfl 0 rfl ?_
  refine n_get C I fX12_48_X12 eX12_compress64_168 (hN 49 (by decide)) h49 rfl ?_
  refine v_iconst (v := (0 : Int32)) C eX12_compress64_171 (by decide) ?_
  refine n_lald C I eX12_compress64_172 (hN 13 (by decide)) rfl 0 (rfl : (0 : Int32) = nI 0) (by omega) (by decide) ?_
  refine v_lstore_n (lv' := [(0, .ref (ad 49)), (1, .long (S 0))]) C eX12_compress64_173 rfl (by decide) [1, 0] rfl ?_
  refine v_aload_n C eX12_compress64_174 rfl 0 rfl ?_
  refine n_get C I fX12_48_X12 eX12_compress64_175 (hN 49 (by decide)) h49 rfl ?_
  refine v_iconst (v := (1 : Int32)) C eX12_compress64_178 (by decide) ?_
  refine n_lald C I eX12_compress64_179 (hN 13 (by decide)) rfl 1 (rfl : (1 : Int32) = nI 1) (by omega) (by decide) ?_
  refine v_lstore_n (lv' := [(0, .ref (ad 49)), (1, .long (S 0)), (3, .long (S 1))]) C eX12_compress64_180 rfl (by decide) [1, 2, 0] rfl ?_
  refine v_aload_n C eX12_compress64_181 rfl 0 rfl ?_
  refine n_get C I fX12_48_X12 eX12_compress64_182 (hN 49 (by decide)) h49 rfl ?_
  refine v_iconst (v := (2 : Int32)) C eX12_compress64_185 (by decide) ?_
  refine n_lald C I eX12_compress64_186 (hN 13 (by decide)) rfl 2 (rfl : (2 : Int32) = nI 2) (by omega) (by decide) ?_
  refine v_lstore (lv' := [(0, .ref (ad 49)), (1, .long (S 0)), (3, .long (S 1)), (5, .long (S 2))]) C eX12_compress64_187 (by decide) [1, 2, 3, 0] rfl ?_
  refine v_aload_n C eX12_compress64_189 rfl 0 rfl ?_
  refine n_get C I fX12_48_X12 eX12_compress64_190 (hN 49 (by decide)) h49 rfl ?_
  refine v_iconst (v := (3 : Int32)) C eX12_compress64_193 (by decide) ?_
  refine n_lald C I eX12_compress64_194 (hN 13 (by decide)) rfl 3 (rfl : (3 : Int32) = nI 3) (by omega) (by decide) ?_
  refine v_lstore (lv' := [(0, .ref (ad 49)), (1, .long (S 0)), (3, .long (S 1)), (5, .long (S 2)), (7, .long (S 3))]) C eX12_compress64_195 (by decide) [1, 2, 3, 4, 0] rfl ?_
  refine v_aload_n C eX12_compress64_197 rfl 0 rfl ?_
  refine n_get C I fX12_48_X12 eX12_compress64_198 (hN 49 (by decide)) h49 rfl ?_
  refine v_iconst (v := (4 : Int32)) C eX12_compress64_201 (by decide) ?_
  refine n_lald C I eX12_compress64_202 (hN 13 (by decide)) rfl 4 (rfl : (4 : Int32) = nI 4) (by omega) (by decide) ?_
  refine v_lstore (lv' := [(0, .ref (ad 49)), (1, .long (S 0)), (3, .long (S 1)), (5, .long (S 2)), (7, .long (S 3)), (9, .long (S 4))]) C eX12_compress64_203 (by decide) [1, 2, 3, 4, 5, 0] rfl ?_
  refine v_aload_n C eX12_compress64_205 rfl 0 rfl ?_
  refine n_get C I fX12_48_X12 eX12_compress64_206 (hN 49 (by decide)) h49 rfl ?_
  refine v_iconst (v := (5 : Int32)) C eX12_compress64_209 (by decide) ?_
  refine n_lald C I eX12_compress64_210 (hN 13 (by decide)) rfl 5 (rfl : (5 : Int32) = nI 5) (by omega) (by decide) ?_
  refine v_lstore (lv' := [(0, .ref (ad 49)), (1, .long (S 0)), (3, .long (S 1)), (5, .long (S 2)), (7, .long (S 3)), (9, .long (S 4)), (11, .long (S 5))]) C eX12_compress64_211 (by decide) [1, 2, 3, 4, 5, 6, 0] rfl ?_
  refine v_aload_n C eX12_compress64_213 rfl 0 rfl ?_
  refine n_get C I fX12_48_X12 eX12_compress64_214 (hN 49 (by decide)) h49 rfl ?_
  refine v_bipush (v := (6 : Int32)) C eX12_compress64_217 (by decide) ?_
  refine n_lald C I eX12_compress64_219 (hN 13 (by decide)) rfl 6 (rfl : (6 : Int32) = nI 6) (by omega) (by decide) ?_
  refine v_lstore (lv' := [(0, .ref (ad 49)), (1, .long (S 0)), (3, .long (S 1)), (5, .long (S 2)), (7, .long (S 3)), (9, .long (S 4)), (11, .long (S 5)), (13, .long (S 6))]) C eX12_compress64_220 (by decide) [1, 2, 3, 4, 5, 6, 7, 0] rfl ?_
  refine v_aload_n C eX12_compress64_222 rfl 0 rfl ?_
  refine n_get C I fX12_48_X12 eX12_compress64_223 (hN 49 (by decide)) h49 rfl ?_
  refine v_bipush (v := (7 : Int32)) C eX12_compress64_226 (by decide) ?_
  refine n_lald C I eX12_compress64_228 (hN 13 (by decide)) rfl 7 (rfl : (7 : Int32) = nI 7) (by omega) (by decide) ?_
  refine v_lstore (lv' := [(0, .ref (ad 49)), (1, .long (S 0)), (3, .long (S 1)), (5, .long (S 2)), (7, .long (S 3)), (9, .long (S 4)), (11, .long (S 5)), (13, .long (S 6)), (15, .long (S 7))]) C eX12_compress64_229 (by decide) [1, 2, 3, 4, 5, 6, 7, 8, 0] rfl ?_
  refine v_iconst (v := (0 : Int32)) C eX12_compress64_231 (by decide) ?_
  refine v_istore (lv' := [(0, .ref (ad 49)), (1, .long (S 0)), (3, .long (S 1)), (5, .long (S 2)), (7, .long (S 3)), (9, .long (S 4)), (11, .long (S 5)), (13, .long (S 6)), (15, .long (S 7)), (17, .int ((0 : Int32)))]) C eX12_compress64_232 (by decide) [1, 2, 3, 4, 5, 6, 7, 8, 9, 0] rfl ?_
  refine v_forV (fun i => va_up (va_up σ 13 (eJ G 25 S)) 16 (eJ G 80 (c64W Bk w))) (fun i => [(0, .ref (ad 49)), (1, .long ((itN (c64R K (c64W Bk w)) i (S 0, S 1, S 2, S 3, S 4, S 5, S 6, S 7)).1)), (3, .long ((itN (c64R K (c64W Bk w)) i (S 0, S 1, S 2, S 3, S 4, S 5, S 6, S 7)).2.1)), (5, .long ((itN (c64R K (c64W Bk w)) i (S 0, S 1, S 2, S 3, S 4, S 5, S 6, S 7)).2.2.1)), (7, .long ((itN (c64R K (c64W Bk w)) i (S 0, S 1, S 2, S 3, S 4, S 5, S 6, S 7)).2.2.2.1)), (9, .long ((itN (c64R K (c64W Bk w)) i (S 0, S 1, S 2, S 3, S 4, S 5, S 6, S 7)).2.2.2.2.1)), (11, .long ((itN (c64R K (c64W Bk w)) i (S 0, S 1, S 2, S 3, S 4, S 5, S 6, S 7)).2.2.2.2.2.1)), (13, .long ((itN (c64R K (c64W Bk w)) i (S 0, S 1, S 2, S 3, S 4, S 5, S 6, S 7)).2.2.2.2.2.2.1)), (15, .long ((itN (c64R K (c64W Bk w)) i (S 0, S 1, S 2, S 3, S 4, S 5, S 6, S 7)).2.2.2.2.2.2.2)), (17, .int (nI i))]) 80 ?_ ?_
  · refine v_iload C eX12_compress64_234 9 rfl ?_
    refine v_bipush (v := (80 : Int32)) C eX12_compress64_236 (by decide) ?_
    refine v_icmp_ge (tgt := 377) C eX12_compress64_238 (by decide) (fun _ => ?_) (fun h => absurd (ix_le (a := 80) (b := 80) (rfl : (80 : Int32) = nI 80) (rfl : nI 80 = nI 80) (by omega) (by omega) (by omega)) h)
    refine v_pick (lv' := [(0, .ref (ad 49)), (1, .long ((itN (c64R K (c64W Bk w)) 80 (S 0, S 1, S 2, S 3, S 4, S 5, S 6, S 7)).1)), (3, .long ((itN (c64R K (c64W Bk w)) 80 (S 0, S 1, S 2, S 3, S 4, S 5, S 6, S 7)).2.1)), (5, .long ((itN (c64R K (c64W Bk w)) 80 (S 0, S 1, S 2, S 3, S 4, S 5, S 6, S 7)).2.2.1)), (7, .long ((itN (c64R K (c64W Bk w)) 80 (S 0, S 1, S 2, S 3, S 4, S 5, S 6, S 7)).2.2.2.1)), (9, .long ((itN (c64R K (c64W Bk w)) 80 (S 0, S 1, S 2, S 3, S 4, S 5, S 6, S 7)).2.2.2.2.1)), (11, .long ((itN (c64R K (c64W Bk w)) 80 (S 0, S 1, S 2, S 3, S 4, S 5, S 6, S 7)).2.2.2.2.2.1)), (13, .long ((itN (c64R K (c64W Bk w)) 80 (S 0, S 1, S 2, S 3, S 4, S 5, S 6, S 7)).2.2.2.2.2.2.1)), (15, .long ((itN (c64R K (c64W Bk w)) 80 (S 0, S 1, S 2, S 3, S 4, S 5, S 6, S 7)).2.2.2.2.2.2.2))]) [0, 1, 2, 3, 4, 5, 6, 7, 8] rfl ?_
    refine c64_5 I hN C h49 h17 h6 _ _ _ _ _ _ _ _ ?_
    exact n_vret C rfl eX12_compress64_465 ⟨rfl, rfl⟩
  · intro i hi ih
    refine v_iload C eX12_compress64_234 9 rfl ?_
    refine v_bipush (v := (80 : Int32)) C eX12_compress64_236 (by decide) ?_
    refine v_icmp_ge (tgt := 377) C eX12_compress64_238 (by decide) (fun h => absurd h (ix_nle (a := 80) (b := i) (rfl : (80 : Int32) = nI 80) (rfl : nI i = nI i) (by omega) (by omega) (by omega))) (fun _ => ?_)
    rw [show itN (c64R K (c64W Bk w)) (i + 1) (S 0, S 1, S 2, S 3, S 4, S 5, S 6, S 7) = c64R K (c64W Bk w) i (itN (c64R K (c64W Bk w)) i (S 0, S 1, S 2, S 3, S 4, S 5, S 6, S 7)) from rfl] at ih
    generalize itN (c64R K (c64W Bk w)) i (S 0, S 1, S 2, S 3, S 4, S 5, S 6, S 7) = q at ih ⊢
    obtain ⟨a0, b0, c0, d0, e0, f0, g0, h0⟩ := q
    exact c64_4 I hN C h49 h17 h6 i hi a0 b0 c0 d0 e0 f0 g0 h0 rfl (by decide) (by decide) (by decide) ih

end M2
