theorem eX12_above_0 : vD cX12_above 0 (.iconst 0) 1 1 := ⟨by decide +kernel, rfl⟩
theorem eX12_above_1 : vD cX12_above 1 (.istore 6) 2 3 := ⟨by decide +kernel, rfl⟩
theorem eX12_above_3 : vD cX12_above 3 (.iload 6) 2 5 := ⟨by decide +kernel, rfl⟩
theorem eX12_above_5 : vD cX12_above 5 (.bipush 16) 2 7 := ⟨by decide +kernel, rfl⟩
theorem eX12_above_7 : vD cX12_above 7 (.if_icmp .ge 26) 3 10 := ⟨by decide +kernel, rfl⟩
theorem eX12_above_10 : vD cX12_above 10 (.aload_n 0) 1 11 := ⟨by decide +kernel, rfl⟩
theorem eX12_above_11 : vD cX12_above 11 (.getfield 39) 3 14 := ⟨by decide +kernel, rfl⟩
theorem eX12_above_14 : vD cX12_above 14 (.iload 6) 2 16 := ⟨by decide +kernel, rfl⟩
theorem eX12_above_16 : vD cX12_above 16 (.iload 6) 2 18 := ⟨by decide +kernel, rfl⟩
theorem eX12_above_18 : vD cX12_above 18 (.ifCond .ne 7) 3 21 := ⟨by decide +kernel, rfl⟩
theorem eX12_above_21 : vD cX12_above 21 (.lconst 1) 1 22 := ⟨by decide +kernel, rfl⟩
theorem eX12_above_22 : vD cX12_above 22 (.goto 4) 3 25 := ⟨by decide +kernel, rfl⟩
theorem eX12_above_25 : vD cX12_above 25 (.lconst 0) 1 26 := ⟨by decide +kernel, rfl⟩
theorem eX12_above_26 : vD cX12_above 26 .lastore 1 27 := ⟨by decide +kernel, rfl⟩
theorem eX12_above_27 : vD cX12_above 27 (.iinc 6 1) 3 30 := ⟨by decide +kernel, rfl⟩
theorem eX12_above_30 : vD cX12_above 30 (.goto (-27)) 3 33 := ⟨by decide +kernel, rfl⟩
theorem eX12_above_33 : vD cX12_above 33 (.iconst 0) 1 34 := ⟨by decide +kernel, rfl⟩
theorem eX12_above_34 : vD cX12_above 34 (.istore 6) 2 36 := ⟨by decide +kernel, rfl⟩
theorem eX12_above_36 : vD cX12_above 36 (.iload 6) 2 38 := ⟨by decide +kernel, rfl⟩
theorem eX12_above_38 : vD cX12_above 38 (.iload 4) 2 40 := ⟨by decide +kernel, rfl⟩
theorem eX12_above_40 : vD cX12_above 40 (.if_icmp .ge 168) 3 43 := ⟨by decide +kernel, rfl⟩
theorem eX12_above_43 : vD cX12_above 43 (.iconst 0) 1 44 := ⟨by decide +kernel, rfl⟩
theorem eX12_above_44 : vD cX12_above 44 (.istore 7) 2 46 := ⟨by decide +kernel, rfl⟩
theorem eX12_above_46 : vD cX12_above 46 (.iload 7) 2 48 := ⟨by decide +kernel, rfl⟩
theorem eX12_above_48 : vD cX12_above 48 (.bipush 16) 2 50 := ⟨by decide +kernel, rfl⟩
theorem eX12_above_50 : vD cX12_above 50 (.if_icmp .ge 17) 3 53 := ⟨by decide +kernel, rfl⟩
theorem eX12_above_53 : vD cX12_above 53 (.aload_n 0) 1 54 := ⟨by decide +kernel, rfl⟩
theorem eX12_above_54 : vD cX12_above 54 (.getfield 36) 3 57 := ⟨by decide +kernel, rfl⟩
theorem eX12_above_57 : vD cX12_above 57 (.iload 7) 2 59 := ⟨by decide +kernel, rfl⟩
theorem eX12_above_59 : vD cX12_above 59 (.lconst 0) 1 60 := ⟨by decide +kernel, rfl⟩
theorem eX12_above_60 : vD cX12_above 60 .lastore 1 61 := ⟨by decide +kernel, rfl⟩
theorem eX12_above_61 : vD cX12_above 61 (.iinc 7 1) 3 64 := ⟨by decide +kernel, rfl⟩
theorem eX12_above_64 : vD cX12_above 64 (.goto (-18)) 3 67 := ⟨by decide +kernel, rfl⟩
theorem eX12_above_67 : vD cX12_above 67 (.iconst 0) 1 68 := ⟨by decide +kernel, rfl⟩
theorem eX12_above_68 : vD cX12_above 68 (.istore 7) 2 70 := ⟨by decide +kernel, rfl⟩
theorem eX12_above_70 : vD cX12_above 70 (.iload 7) 2 72 := ⟨by decide +kernel, rfl⟩
theorem eX12_above_72 : vD cX12_above 72 (.bipush 16) 2 74 := ⟨by decide +kernel, rfl⟩
theorem eX12_above_74 : vD cX12_above 74 (.if_icmp .ge 77) 3 77 := ⟨by decide +kernel, rfl⟩
theorem eX12_above_77 : vD cX12_above 77 (.iconst 0) 1 78 := ⟨by decide +kernel, rfl⟩
theorem eX12_above_78 : vD cX12_above 78 (.istore 8) 2 80 := ⟨by decide +kernel, rfl⟩
theorem eX12_above_80 : vD cX12_above 80 (.iload 8) 2 82 := ⟨by decide +kernel, rfl⟩
theorem eX12_above_82 : vD cX12_above 82 (.iconst 5) 1 83 := ⟨by decide +kernel, rfl⟩
theorem eX12_above_83 : vD cX12_above 83 (.if_icmp .ge 62) 3 86 := ⟨by decide +kernel, rfl⟩
theorem eX12_above_86 : vD cX12_above 86 (.iload 7) 2 88 := ⟨by decide +kernel, rfl⟩
theorem eX12_above_88 : vD cX12_above 88 (.iload 8) 2 90 := ⟨by decide +kernel, rfl⟩
theorem eX12_above_90 : vD cX12_above 90 .iadd 1 91 := ⟨by decide +kernel, rfl⟩
theorem eX12_above_91 : vD cX12_above 91 (.bipush 16) 2 93 := ⟨by decide +kernel, rfl⟩
theorem eX12_above_93 : vD cX12_above 93 (.if_icmp .ge 52) 3 96 := ⟨by decide +kernel, rfl⟩
theorem eX12_above_96 : vD cX12_above 96 (.aload_n 0) 1 97 := ⟨by decide +kernel, rfl⟩
theorem eX12_above_97 : vD cX12_above 97 (.getfield 36) 3 100 := ⟨by decide +kernel, rfl⟩
theorem eX12_above_100 : vD cX12_above 100 (.iload 7) 2 102 := ⟨by decide +kernel, rfl⟩
theorem eX12_above_102 : vD cX12_above 102 (.iload 8) 2 104 := ⟨by decide +kernel, rfl⟩
theorem eX12_above_104 : vD cX12_above 104 .iadd 1 105 := ⟨by decide +kernel, rfl⟩
theorem eX12_above_105 : vD cX12_above 105 .dup2 1 106 := ⟨by decide +kernel, rfl⟩
theorem eX12_above_106 : vD cX12_above 106 .laload 1 107 := ⟨by decide +kernel, rfl⟩
theorem eX12_above_107 : vD cX12_above 107 (.aload_n 0) 1 108 := ⟨by decide +kernel, rfl⟩
theorem eX12_above_108 : vD cX12_above 108 (.getfield 39) 3 111 := ⟨by decide +kernel, rfl⟩
theorem eX12_above_111 : vD cX12_above 111 (.iload 7) 2 113 := ⟨by decide +kernel, rfl⟩
theorem eX12_above_113 : vD cX12_above 113 .laload 1 114 := ⟨by decide +kernel, rfl⟩
theorem eX12_above_114 : vD cX12_above 114 (.iload 8) 2 116 := ⟨by decide +kernel, rfl⟩
theorem eX12_above_116 : vD cX12_above 116 (.iconst 4) 1 117 := ⟨by decide +kernel, rfl⟩
theorem eX12_above_117 : vD cX12_above 117 (.if_icmp .ge 17) 3 120 := ⟨by decide +kernel, rfl⟩
theorem eX12_above_120 : vD cX12_above 120 (.lload_n 2) 1 121 := ⟨by decide +kernel, rfl⟩
theorem eX12_above_121 : vD cX12_above 121 (.bipush 16) 2 123 := ⟨by decide +kernel, rfl⟩
theorem eX12_above_123 : vD cX12_above 123 (.iload 8) 2 125 := ⟨by decide +kernel, rfl⟩
theorem eX12_above_125 : vD cX12_above 125 .imul 1 126 := ⟨by decide +kernel, rfl⟩
theorem eX12_above_126 : vD cX12_above 126 .lushr 1 127 := ⟨by decide +kernel, rfl⟩
theorem eX12_above_127 : vD cX12_above 127 (.ldc2_w 144) 3 130 := ⟨by decide +kernel, rfl⟩
theorem eX12_above_130 : vD cX12_above 130 .land 1 131 := ⟨by decide +kernel, rfl⟩
theorem eX12_above_131 : vD cX12_above 131 (.goto 5) 3 134 := ⟨by decide +kernel, rfl⟩
theorem eX12_above_134 : vD cX12_above 134 (.iload_n 1) 1 135 := ⟨by decide +kernel, rfl⟩
theorem eX12_above_135 : vD cX12_above 135 .i2l 1 136 := ⟨by decide +kernel, rfl⟩
theorem eX12_above_136 : vD cX12_above 136 .lmul 1 137 := ⟨by decide +kernel, rfl⟩
theorem eX12_above_137 : vD cX12_above 137 .ladd 1 138 := ⟨by decide +kernel, rfl⟩
theorem eX12_above_138 : vD cX12_above 138 .lastore 1 139 := ⟨by decide +kernel, rfl⟩
theorem eX12_above_139 : vD cX12_above 139 (.iinc 8 1) 3 142 := ⟨by decide +kernel, rfl⟩
theorem eX12_above_142 : vD cX12_above 142 (.goto (-62)) 3 145 := ⟨by decide +kernel, rfl⟩
theorem eX12_above_145 : vD cX12_above 145 (.iinc 7 1) 3 148 := ⟨by decide +kernel, rfl⟩
theorem eX12_above_148 : vD cX12_above 148 (.goto (-78)) 3 151 := ⟨by decide +kernel, rfl⟩
theorem eX12_above_151 : vD cX12_above 151 (.lconst 0) 1 152 := ⟨by decide +kernel, rfl⟩
theorem eX12_above_152 : vD cX12_above 152 (.lstore 7) 2 154 := ⟨by decide +kernel, rfl⟩
theorem eX12_above_154 : vD cX12_above 154 (.iconst 0) 1 155 := ⟨by decide +kernel, rfl⟩
theorem eX12_above_155 : vD cX12_above 155 (.istore 9) 2 157 := ⟨by decide +kernel, rfl⟩
theorem eX12_above_157 : vD cX12_above 157 (.iload 9) 2 159 := ⟨by decide +kernel, rfl⟩
theorem eX12_above_159 : vD cX12_above 159 (.bipush 16) 2 161 := ⟨by decide +kernel, rfl⟩
theorem eX12_above_161 : vD cX12_above 161 (.if_icmp .ge 41) 3 164 := ⟨by decide +kernel, rfl⟩
theorem eX12_above_164 : vD cX12_above 164 (.lload 7) 2 166 := ⟨by decide +kernel, rfl⟩
theorem eX12_above_166 : vD cX12_above 166 (.aload_n 0) 1 167 := ⟨by decide +kernel, rfl⟩
theorem eX12_above_167 : vD cX12_above 167 (.getfield 36) 3 170 := ⟨by decide +kernel, rfl⟩
theorem eX12_above_170 : vD cX12_above 170 (.iload 9) 2 172 := ⟨by decide +kernel, rfl⟩
theorem eX12_above_172 : vD cX12_above 172 .laload 1 173 := ⟨by decide +kernel, rfl⟩
theorem eX12_above_173 : vD cX12_above 173 .ladd 1 174 := ⟨by decide +kernel, rfl⟩
theorem eX12_above_174 : vD cX12_above 174 (.lstore 7) 2 176 := ⟨by decide +kernel, rfl⟩
theorem eX12_above_176 : vD cX12_above 176 (.aload_n 0) 1 177 := ⟨by decide +kernel, rfl⟩
theorem eX12_above_177 : vD cX12_above 177 (.getfield 39) 3 180 := ⟨by decide +kernel, rfl⟩
theorem eX12_above_180 : vD cX12_above 180 (.iload 9) 2 182 := ⟨by decide +kernel, rfl⟩
theorem eX12_above_182 : vD cX12_above 182 (.lload 7) 2 184 := ⟨by decide +kernel, rfl⟩
theorem eX12_above_184 : vD cX12_above 184 (.ldc2_w 144) 3 187 := ⟨by decide +kernel, rfl⟩
theorem eX12_above_187 : vD cX12_above 187 .land 1 188 := ⟨by decide +kernel, rfl⟩
theorem eX12_above_188 : vD cX12_above 188 .lastore 1 189 := ⟨by decide +kernel, rfl⟩
theorem eX12_above_189 : vD cX12_above 189 (.lload 7) 2 191 := ⟨by decide +kernel, rfl⟩
theorem eX12_above_191 : vD cX12_above 191 (.bipush 16) 2 193 := ⟨by decide +kernel, rfl⟩
theorem eX12_above_193 : vD cX12_above 193 .lushr 1 194 := ⟨by decide +kernel, rfl⟩
theorem eX12_above_194 : vD cX12_above 194 (.lstore 7) 2 196 := ⟨by decide +kernel, rfl⟩
theorem eX12_above_196 : vD cX12_above 196 (.iinc 9 1) 3 199 := ⟨by decide +kernel, rfl⟩
theorem eX12_above_199 : vD cX12_above 199 (.goto (-42)) 3 202 := ⟨by decide +kernel, rfl⟩
theorem eX12_above_202 : vD cX12_above 202 (.iinc 6 1) 3 205 := ⟨by decide +kernel, rfl⟩
theorem eX12_above_205 : vD cX12_above 205 (.goto (-169)) 3 208 := ⟨by decide +kernel, rfl⟩
theorem eX12_above_208 : vD cX12_above 208 (.aload_n 0) 1 209 := ⟨by decide +kernel, rfl⟩
theorem eX12_above_209 : vD cX12_above 209 (.getfield 39) 3 212 := ⟨by decide +kernel, rfl⟩
theorem eX12_above_212 : vD cX12_above 212 (.iconst 4) 1 213 := ⟨by decide +kernel, rfl⟩
theorem eX12_above_213 : vD cX12_above 213 (.iload 4) 2 215 := ⟨by decide +kernel, rfl⟩
theorem eX12_above_215 : vD cX12_above 215 .imul 1 216 := ⟨by decide +kernel, rfl⟩
theorem eX12_above_216 : vD cX12_above 216 .laload 1 217 := ⟨by decide +kernel, rfl⟩
theorem eX12_above_217 : vD cX12_above 217 (.aload_n 0) 1 218 := ⟨by decide +kernel, rfl⟩
theorem eX12_above_218 : vD cX12_above 218 (.getfield 39) 3 221 := ⟨by decide +kernel, rfl⟩
theorem eX12_above_221 : vD cX12_above 221 (.iconst 4) 1 222 := ⟨by decide +kernel, rfl⟩
theorem eX12_above_222 : vD cX12_above 222 (.iload 4) 2 224 := ⟨by decide +kernel, rfl⟩
theorem eX12_above_224 : vD cX12_above 224 .imul 1 225 := ⟨by decide +kernel, rfl⟩
theorem eX12_above_225 : vD cX12_above 225 (.iconst 1) 1 226 := ⟨by decide +kernel, rfl⟩
theorem eX12_above_226 : vD cX12_above 226 .iadd 1 227 := ⟨by decide +kernel, rfl⟩
theorem eX12_above_227 : vD cX12_above 227 .laload 1 228 := ⟨by decide +kernel, rfl⟩
theorem eX12_above_228 : vD cX12_above 228 (.bipush 16) 2 230 := ⟨by decide +kernel, rfl⟩
theorem eX12_above_230 : vD cX12_above 230 .lshl 1 231 := ⟨by decide +kernel, rfl⟩
theorem eX12_above_231 : vD cX12_above 231 .ladd 1 232 := ⟨by decide +kernel, rfl⟩
theorem eX12_above_232 : vD cX12_above 232 (.lstore 6) 2 234 := ⟨by decide +kernel, rfl⟩
theorem eX12_above_234 : vD cX12_above 234 (.iconst 0) 1 235 := ⟨by decide +kernel, rfl⟩
theorem eX12_above_235 : vD cX12_above 235 (.istore 8) 2 237 := ⟨by decide +kernel, rfl⟩
theorem eX12_above_237 : vD cX12_above 237 (.iconst 0) 1 238 := ⟨by decide +kernel, rfl⟩
theorem eX12_above_238 : vD cX12_above 238 (.istore 9) 2 240 := ⟨by decide +kernel, rfl⟩
theorem eX12_above_240 : vD cX12_above 240 (.iload 9) 2 242 := ⟨by decide +kernel, rfl⟩
theorem eX12_above_242 : vD cX12_above 242 (.iconst 4) 1 243 := ⟨by decide +kernel, rfl⟩
theorem eX12_above_243 : vD cX12_above 243 (.iload 4) 2 245 := ⟨by decide +kernel, rfl⟩
theorem eX12_above_245 : vD cX12_above 245 .imul 1 246 := ⟨by decide +kernel, rfl⟩
theorem eX12_above_246 : vD cX12_above 246 (.if_icmp .ge 24) 3 249 := ⟨by decide +kernel, rfl⟩
theorem eX12_above_249 : vD cX12_above 249 (.aload_n 0) 1 250 := ⟨by decide +kernel, rfl⟩
theorem eX12_above_250 : vD cX12_above 250 (.getfield 39) 3 253 := ⟨by decide +kernel, rfl⟩
theorem eX12_above_253 : vD cX12_above 253 (.iload 9) 2 255 := ⟨by decide +kernel, rfl⟩
theorem eX12_above_255 : vD cX12_above 255 .laload 1 256 := ⟨by decide +kernel, rfl⟩
theorem eX12_above_256 : vD cX12_above 256 (.lconst 0) 1 257 := ⟨by decide +kernel, rfl⟩
theorem eX12_above_257 : vD cX12_above 257 .lcmp 1 258 := ⟨by decide +kernel, rfl⟩
theorem eX12_above_258 : vD cX12_above 258 (.ifCond .eq 6) 3 261 := ⟨by decide +kernel, rfl⟩
theorem eX12_above_261 : vD cX12_above 261 (.iconst 1) 1 262 := ⟨by decide +kernel, rfl⟩
theorem eX12_above_262 : vD cX12_above 262 (.istore 8) 2 264 := ⟨by decide +kernel, rfl⟩
theorem eX12_above_264 : vD cX12_above 264 (.iinc 9 1) 3 267 := ⟨by decide +kernel, rfl⟩
theorem eX12_above_267 : vD cX12_above 267 (.goto (-27)) 3 270 := ⟨by decide +kernel, rfl⟩
theorem eX12_above_270 : vD cX12_above 270 (.lload 6) 2 272 := ⟨by decide +kernel, rfl⟩
theorem eX12_above_272 : vD cX12_above 272 (.iload 5) 2 274 := ⟨by decide +kernel, rfl⟩
theorem eX12_above_274 : vD cX12_above 274 .i2l 1 275 := ⟨by decide +kernel, rfl⟩
theorem eX12_above_275 : vD cX12_above 275 .lcmp 1 276 := ⟨by decide +kernel, rfl⟩
theorem eX12_above_276 : vD cX12_above 276 (.ifCond .gt 17) 3 279 := ⟨by decide +kernel, rfl⟩
theorem eX12_above_279 : vD cX12_above 279 (.lload 6) 2 281 := ⟨by decide +kernel, rfl⟩
theorem eX12_above_281 : vD cX12_above 281 (.iload 5) 2 283 := ⟨by decide +kernel, rfl⟩
theorem eX12_above_283 : vD cX12_above 283 .i2l 1 284 := ⟨by decide +kernel, rfl⟩
theorem eX12_above_284 : vD cX12_above 284 .lcmp 1 285 := ⟨by decide +kernel, rfl⟩
theorem eX12_above_285 : vD cX12_above 285 (.ifCond .ne 12) 3 288 := ⟨by decide +kernel, rfl⟩
theorem eX12_above_288 : vD cX12_above 288 (.iload 8) 2 290 := ⟨by decide +kernel, rfl⟩
theorem eX12_above_290 : vD cX12_above 290 (.ifCond .eq 7) 3 293 := ⟨by decide +kernel, rfl⟩
theorem eX12_above_293 : vD cX12_above 293 (.iconst 1) 1 294 := ⟨by decide +kernel, rfl⟩
theorem eX12_above_294 : vD cX12_above 294 (.goto 4) 3 297 := ⟨by decide +kernel, rfl⟩
theorem eX12_above_297 : vD cX12_above 297 (.iconst 0) 1 298 := ⟨by decide +kernel, rfl⟩
theorem eX12_above_298 : vD cX12_above 298 .ireturn 1 299 := ⟨by decide +kernel, rfl⟩

theorem ab_1 {x i c : Nat} (h : x ≤ (5 * i + min 5 (16 - i)) * c) : x ≤ 5 * (i + 1) * c := Nat.le_trans h (Nat.mul_le_mul_right c (by omega))
theorem ab_1a {x i c : Nat} (h : x ≤ (5 * i + 5) * c) : x ≤ 5 * (i + 1) * c := Nat.le_trans h (Nat.mul_le_mul_right c (by omega))
theorem ab_1b {x i c : Nat} (hi : 11 < i) (h : x ≤ (5 * i + (16 - i)) * c) : x ≤ 5 * (i + 1) * c := Nat.le_trans h (Nat.mul_le_mul_right c (by omega))
theorem ab_e {v a b c q : Nat} (h : v = a * c + b * c) (g : q = a + b) : v = q * c := by rw [h, g, Nat.add_mul]
theorem ab_f {v a p z c d q : Nat} (h : v = a * c + p * z * d) (g : q = a + p * z) (e : p = 0) : v = q * c := by subst e; rw [h, g, Nat.zero_mul, Nat.zero_mul, Nat.add_zero, Nat.add_zero]
theorem ab_2 {x i j c : Nat} (h : x ≤ (5 * i + j) * c) : x ≤ (5 * i + (j + 1)) * c := Nat.le_trans h (Nat.mul_le_mul_right c (by omega))
theorem ab_3 {x y i j c : Nat} (h : x ≤ (5 * i + j) * c) (hy : y ≤ c) : x + y ≤ (5 * i + (j + 1)) * c := by
  rw [← Nat.add_assoc, Nat.succ_mul]
  exact Nat.add_le_add h hy
theorem vl_z : ∀ n, vl (fun _ => 0) n = 0
  | 0 => rfl
  | n + 1 => by
    show vl (fun _ => 0) n + 0 * _ = 0
    rw [vl_z n, Nat.zero_mul]
section M40
variable {G : vG} {B : Nat} {l : Launch} {ad : Nat → Nat} {N : Nat} {σ : nS} {x : Nat → Int32} {t : Int64}
theorem jt_n {f : Nat → Int64} {n k : Nat} {τ : nS} : jt (va_up τ k (eJ G n f)) k = f := jt_J (G := G) (n := n) n_self
theorem lN_64 {n : Nat} (h : n < 2 ^ 64) {a : Nat} (ha : a < 2 ^ 64) : lN n = lN a ↔ n = a := ⟨fun q => by have := congrArg (fun z : Int64 => z.toBitVec.toNat) q; simpa [wb_tn h, wb_tn ha] using this, fun q => by rw [q]⟩
set_option maxRecDepth 100000 in
set_option maxHeartbeats 4000000 in
theorem ab_Z (I : nI1 ad N) (hN : ∀ k, k < 74 → k < N) {p : Program} {e : Env} {R : Room} {s : State} {m : MethodId} {args : Array Value} {below : List Frame} {meth : Method} {c : Code} {Q : State → Prop} (C : vC G B p m meth c cX12_above 10 (some .boolean) s args yX12_above.cls) (ho : σ 49 = eO 9 (mO ad x t)) (hn : σ 9 = eJ G 16 (jt σ 9)) (hp : σ 10 = eJ G 16 (jt σ 10)) {w pt k num p0 : Nat} {d1 : Nat} (hR : R = vRm d1 0 0) (hd1 : 0 ≤ d1) (kk : ∀ σ', (σ' 9 = eJ G 16 (jt σ' 9) ∧ σ' 10 = eJ G 16 (jt σ' 10) ∧ (∀ k, ¬ (k = 9) → σ' k = σ k) ∧ ∀ i, i < 16 → jt σ' 9 i = lN 0) → V G B p l e R s m args below meth c 10 0 0 Q (nW ad N σ') 67 [(0, .ref (ad 49)), (1, .int (nI w)), (2, .long (lN pt)), (4, .int (nI k)), (5, .int (nI num)), (6, .int (nI p0))] []) : V G B p l e R s m args below meth c 10 0 0 Q (nW ad N σ) 43 [(0, .ref (ad 49)), (1, .int (nI w)), (2, .long (lN pt)), (4, .int (nI k)), (5, .int (nI num)), (6, .int (nI p0))] [] := by
  subst hR
  refine v_iconst (v := nI 0) C eX12_above_43 (by decide) ?_
  refine v_istore (lv' := [(0, .ref (ad 49)), (1, .int (nI w)), (2, .long (lN pt)), (4, .int (nI k)), (5, .int (nI num)), (6, .int (nI p0)), (7, .int (nI 0))]) C eX12_above_44 (by decide) [1, 2, 3, 4, 5, 6, 0] rfl ?_
  refine v_forP (fun j τ => (∀ k, ¬ (k = 9 ∨ k = 10) → τ k = σ k) ∧ τ 9 = eJ G 16 (jt τ 9) ∧ τ 10 = eJ G 16 (jt τ 10) ∧ (∀ k, ¬ (k = 9) → τ k = σ k) ∧ ∀ i, i < j → jt τ 9 i = lN 0) (fun j => [(0, .ref (ad 49)), (1, .int (nI w)), (2, .long (lN pt)), (4, .int (nI k)), (5, .int (nI num)), (6, .int (nI p0)), (7, .int (nI j))]) 16 ?_ ?_ _ ⟨fun k _ => rfl, hn, hp, fun k _ => rfl, fun i hi => absurd hi (Nat.not_lt_zero i)⟩
  · intro τ hI
    obtain ⟨hk1, hn1, hp1, hq1, hv1⟩ := hI
    have ho1 : τ 49 = eO 9 (mO ad x t) := (hk1 49 (by decide)).trans ho
    refine v_iload C eX12_above_46 6 rfl ?_
    refine v_bipush (v := (16 : Int32)) C eX12_above_48 (by decide) ?_
    refine v_icmp_ge (tgt := 67) C eX12_above_50 (by decide) (fun _ => ?_) (fun h => absurd (ix_le (a := 16) (b := 16) (rfl : (16 : Int32) = nI 16) (rfl : nI 16 = nI 16) (by omega) (by omega) (by omega)) h)
    refine v_pick (lv' := [(0, .ref (ad 49)), (1, .int (nI w)), (2, .long (lN pt)), (4, .int (nI k)), (5, .int (nI num)), (6, .int (nI p0))]) [0, 1, 2, 3, 4, 5] rfl ?_
    exact kk τ ⟨hn1, hp1, hq1, hv1⟩
  · intro j hj ih τ hI
    obtain ⟨hk1, hn1, hp1, hq1, hv1⟩ := hI
    have ho1 : τ 49 = eO 9 (mO ad x t) := (hk1 49 (by decide)).trans ho
    refine v_iload C eX12_above_46 6 rfl ?_
    refine v_bipush (v := (16 : Int32)) C eX12_above_48 (by decide) ?_
    refine v_icmp_ge (tgt := 67) C eX12_above_50 (by decide) (fun h => absurd h (ix_nle (a := 16) (b := j) (rfl : (16 : Int32) = nI 16) (rfl : nI j = nI j) (by omega) (by omega) (by omega))) (fun _ => ?_)
    refine v_aload_n C eX12_above_53 rfl 0 rfl ?_
    refine n_get C I fX12_36_X12 eX12_above_54 (hN 49 (by decide)) ho1 rfl ?_
    refine v_iload C eX12_above_57 6 rfl ?_
    refine v_lconst (v := (0 : Int64)) C eX12_above_59 (by decide) ?_
    refine n_last C I eX12_above_60 (hN 9 (by decide)) hn1 j (rfl : nI j = nI j) (by omega) (by decide) ?_
    refine v_iinc (lv' := [(0, .ref (ad 49)), (1, .int (nI w)), (2, .long (lN pt)), (4, .int (nI k)), (5, .int (nI num)), (6, .int (nI p0)), (7, .int (nI (j + 1)))]) C eX12_above_61 6 rfl (ix_inc _) (by decide) [1, 2, 3, 4, 5, 6, 0] rfl ?_
    refine v_goto (tgt := 46) C eX12_above_64 (by decide) ?_
    refine ih _ ⟨fun k hk => (n_ne (by omega)).trans (hk1 k hk), by rw [jt_n]; exact n_self, hp1, fun k hk => (n_ne hk).trans (hq1 k hk), fun i hi => ?_⟩
    rw [jt_n, up_at]
    by_cases e : i = j
    · rw [if_pos e]; rfl
    · rw [if_neg e]; exact hv1 i (by omega)

set_option maxRecDepth 100000 in
set_option maxHeartbeats 4000000 in
theorem ab_M (I : nI1 ad N) (hN : ∀ k, k < 74 → k < N) {p : Program} {e : Env} {R : Room} {s : State} {m : MethodId} {args : Array Value} {below : List Frame} {meth : Method} {c : Code} {Q : State → Prop} (C : vC G B p m meth c cX12_above 10 (some .boolean) s args yX12_above.cls) (ho : σ 49 = eO 9 (mO ad x t)) (hn : σ 9 = eJ G 16 (jt σ 9)) (hp : σ 10 = eJ G 16 (jt σ 10)) {w pt k num p0 cc0 : Nat} (hcc : 65535 * 65535 ≤ cc0) (hw : w ≤ 32) (hpt : pt < 2 ^ 64) {P : Nat → Nat} (hP : ∀ i, i < 16 → jt σ 10 i = lN (P i) ∧ P i < 65536) (hPz : ∀ i, 12 ≤ i → i < 16 → P i = 0) (hL0 : ∀ i, i < 16 → jt σ 9 i = lN 0) {d1 : Nat} (hR : R = vRm d1 0 0) (hd1 : 0 ≤ d1) (kk : ∀ σ', (σ' 9 = eJ G 16 (jt σ' 9) ∧ σ' 10 = eJ G 16 (jt σ' 10) ∧ (∀ k, ¬ (k = 9) → σ' k = σ k) ∧ ∃ L : Nat → Nat, (∀ m, m < 16 → jt σ' 9 m = lN (L m) ∧ L m ≤ (5 * 16) * cc0) ∧ vl L 16 = vl P 16 * vl (dgA w pt) 5) → V G B p l e R s m args below meth c 10 0 0 Q (nW ad N σ') 151 [(0, .ref (ad 49)), (1, .int (nI w)), (2, .long (lN pt)), (4, .int (nI k)), (5, .int (nI num)), (6, .int (nI p0))] []) : V G B p l e R s m args below meth c 10 0 0 Q (nW ad N σ) 67 [(0, .ref (ad 49)), (1, .int (nI w)), (2, .long (lN pt)), (4, .int (nI k)), (5, .int (nI num)), (6, .int (nI p0))] [] := by
  subst hR
  have vA : ∀ (P : Nat → Nat) (m a n : Nat), m < n → vl (fun i => if i = m then P m + a else P i) n = vl P n + a * 2 ^ (16 * m) := fun P m a n h => vl_add n h
  have vS : ∀ (P : Nat → Nat) (n : Nat), vl P (n + 1) = vl P n + P n * 2 ^ (16 * n) := fun _ _ => rfl
  have v0 : ∀ P : Nat → Nat, vl P 0 = 0 := fun _ => rfl
  have vz : vl (fun _ => 0) 16 = 0 := vl_z 16
  generalize vl = vf at vA vS v0 vz kk
  refine v_iconst (v := nI 0) C eX12_above_67 (by decide) ?_
  refine v_istore (lv' := [(0, .ref (ad 49)), (1, .int (nI w)), (2, .long (lN pt)), (4, .int (nI k)), (5, .int (nI num)), (6, .int (nI p0)), (7, .int (nI 0))]) C eX12_above_68 (by decide) [1, 2, 3, 4, 5, 6, 0] rfl ?_
  have hP0 : ∀ i, i < 16 → P i < 65536 := fun i hi => (hP i hi).2
  refine v_forP (fun i τ => (∀ k, ¬ (k = 9 ∨ k = 10) → τ k = σ k) ∧ τ 9 = eJ G 16 (jt τ 9) ∧ τ 10 = eJ G 16 (jt τ 10) ∧ (∀ k, ¬ (k = 9) → τ k = σ k) ∧ ∃ L : Nat → Nat, (∀ m, m < 16 → jt τ 9 m = lN (L m) ∧ L m ≤ (5 * i) * cc0) ∧ vf L 16 = vf P i * vf (dgA w pt) 5) (fun i => [(0, .ref (ad 49)), (1, .int (nI w)), (2, .long (lN pt)), (4, .int (nI k)), (5, .int (nI num)), (6, .int (nI p0)), (7, .int (nI i))]) 16 ?_ ?_ _ ⟨fun k _ => rfl, hn, hp, fun k _ => rfl, fun _ => 0, fun m hm => ⟨hL0 m hm, Nat.zero_le _⟩, by rw [v0, Nat.zero_mul]; exact vz⟩
  · intro τ hI
    obtain ⟨hk1, hn1, hp1, hq1, L, hL1, hV1⟩ := hI
    have ho1 : τ 49 = eO 9 (mO ad x t) := (hk1 49 (by decide)).trans ho
    refine v_iload C eX12_above_70 6 rfl ?_
    refine v_bipush (v := (16 : Int32)) C eX12_above_72 (by decide) ?_
    refine v_icmp_ge (tgt := 151) C eX12_above_74 (by decide) (fun _ => ?_) (fun h => absurd (ix_le (a := 16) (b := 16) (rfl : (16 : Int32) = nI 16) (rfl : nI 16 = nI 16) (by omega) (by omega) (by omega)) h)
    refine v_pick (lv' := [(0, .ref (ad 49)), (1, .int (nI w)), (2, .long (lN pt)), (4, .int (nI k)), (5, .int (nI num)), (6, .int (nI p0))]) [0, 1, 2, 3, 4, 5] rfl ?_
    exact kk τ ⟨hn1, hp1, hq1, L, fun m hm => ⟨(hL1 m hm).1, (hL1 m hm).2⟩, hV1⟩
  · intro i hi ih τ hI
    obtain ⟨hk1, hn1, hp1, hq1, L, hL1, hV1⟩ := hI
    have ho1 : τ 49 = eO 9 (mO ad x t) := (hk1 49 (by decide)).trans ho
    refine v_iload C eX12_above_70 6 rfl ?_
    refine v_bipush (v := (16 : Int32)) C eX12_above_72 (by decide) ?_
    refine v_icmp_ge (tgt := 151) C eX12_above_74 (by decide) (fun h => absurd h (ix_nle (a := 16) (b := i) (rfl : (16 : Int32) = nI 16) (rfl : nI i = nI i) (by omega) (by omega) (by omega))) (fun _ => ?_)
    refine v_iconst (v := nI 0) C eX12_above_77 (by decide) ?_
    refine v_istore (lv' := [(0, .ref (ad 49)), (1, .int (nI w)), (2, .long (lN pt)), (4, .int (nI k)), (5, .int (nI num)), (6, .int (nI p0)), (7, .int (nI i)), (8, .int (nI 0))]) C eX12_above_78 (by decide) [1, 2, 3, 4, 5, 6, 7, 0] rfl ?_
    by_cases c5 : i ≤ 11
    · refine v_forP (fun j ρ => (∀ k, ¬ (k = 9 ∨ k = 10) → ρ k = σ k) ∧ ρ 9 = eJ G 16 (jt ρ 9) ∧ ρ 10 = eJ G 16 (jt ρ 10) ∧ (∀ k, ¬ (k = 9) → ρ k = σ k) ∧ ∃ L : Nat → Nat, (∀ m, m < 16 → jt ρ 9 m = lN (L m) ∧ L m ≤ (5 * i + j) * cc0) ∧ vf L 16 = vf P i * vf (dgA w pt) 5 + P i * 2 ^ (16 * i) * vf (dgA w pt) j) (fun j => [(0, .ref (ad 49)), (1, .int (nI w)), (2, .long (lN pt)), (4, .int (nI k)), (5, .int (nI num)), (6, .int (nI p0)), (7, .int (nI i)), (8, .int (nI j))]) 5 ?_ ?_ _ ⟨hk1, hn1, hp1, hq1, L, fun m hm => ⟨(hL1 m hm).1, (hL1 m hm).2⟩, by rw [hV1, v0, Nat.mul_zero, Nat.add_zero]⟩
      · intro ρ hI
        obtain ⟨hk2, hn2, hp2, hq2, L2, hL2, hV2⟩ := hI
        have ho2 : ρ 49 = eO 9 (mO ad x t) := (hk2 49 (by decide)).trans ho
        refine v_iload C eX12_above_80 7 rfl ?_
        refine v_iconst (v := (5 : Int32)) C eX12_above_82 (by decide) ?_
        refine v_icmp_ge (tgt := 145) C eX12_above_83 (by decide) (fun _ => ?_) (fun h => absurd (ix_le (a := 5) (b := 5) (rfl : (5 : Int32) = nI 5) (rfl : nI 5 = nI 5) (by omega) (by omega) (by omega)) h)
        refine v_iinc (lv' := [(0, .ref (ad 49)), (1, .int (nI w)), (2, .long (lN pt)), (4, .int (nI k)), (5, .int (nI num)), (6, .int (nI p0)), (7, .int (nI (i + 1))), (8, .int (nI 5))]) C eX12_above_145 6 rfl (ix_inc _) (by decide) [1, 2, 3, 4, 5, 6, 0, 7] rfl ?_
        refine v_goto (tgt := 70) C eX12_above_148 (by decide) ?_
        refine v_pick (lv' := [(0, .ref (ad 49)), (1, .int (nI w)), (2, .long (lN pt)), (4, .int (nI k)), (5, .int (nI num)), (6, .int (nI p0)), (7, .int (nI (i + 1)))]) [0, 1, 2, 3, 4, 5, 6] rfl ?_
        refine ih ρ ⟨hk2, hn2, hp2, hq2, L2, fun m hm => ⟨(hL2 m hm).1, ab_1a (hL2 m hm).2⟩, ?_⟩
        exact ab_e hV2 (vS P i)
      · intro j hj ih2 ρ hI
        obtain ⟨hk2, hn2, hp2, hq2, L2, hL2, hV2⟩ := hI
        have ho2 : ρ 49 = eO 9 (mO ad x t) := (hk2 49 (by decide)).trans ho
        refine v_iload C eX12_above_80 7 rfl ?_
        refine v_iconst (v := (5 : Int32)) C eX12_above_82 (by decide) ?_
        refine v_icmp_ge (tgt := 145) C eX12_above_83 (by decide) (fun h => absurd h (ix_nle (a := 5) (b := j) (rfl : (5 : Int32) = nI 5) (rfl : nI j = nI j) (by omega) (by omega) (by omega))) (fun _ => ?_)
        refine v_iload C eX12_above_86 6 rfl ?_
        refine v_iload C eX12_above_88 7 rfl ?_
        refine v_iadd C eX12_above_90 ?_
        refine v_bipush (v := (16 : Int32)) C eX12_above_91 (by decide) ?_
        refine v_icmp_ge (tgt := 145) C eX12_above_93 (by decide) (fun h => absurd h (ix_nle (a := 16) (b := i + j) (rfl : (16 : Int32) = nI 16) (ix_add (a := i) (b := j) (rfl : nI i = nI i) (rfl : nI j = nI j)) (by omega) (by omega) (by omega))) (fun _ => ?_)
        refine v_aload_n C eX12_above_96 rfl 0 rfl ?_
        refine n_get C I fX12_36_X12 eX12_above_97 (hN 49 (by decide)) ho2 rfl ?_
        refine v_iload C eX12_above_100 6 rfl ?_
        refine v_iload C eX12_above_102 7 rfl ?_
        refine v_iadd C eX12_above_104 ?_
        refine v_dup2_11 C eX12_above_105 rfl rfl ?_
        refine n_lald C I eX12_above_106 (hN 9 (by decide)) hn2 (i + j) (ix_add (a := i) (b := j) (rfl : nI i = nI i) (rfl : nI j = nI j)) (by omega) (by decide) ?_
        have hLm := hL2 (i + j) (by omega)
        have hPi := hP i hi
        have hp2i : jt ρ 10 i = lN (P i) := by rw [jt_same (hq2 10 (by decide))]; exact hPi.1
        have hdl := dgA_lt (pt := pt) hw j
        refine v_aload_n C eX12_above_107 rfl 0 rfl ?_
        refine n_get C I fX12_39_X12 eX12_above_108 (hN 49 (by decide)) ho2 rfl ?_
        refine v_iload C eX12_above_111 6 rfl ?_
        refine n_lald C I eX12_above_113 (hN 10 (by decide)) hp2 i (rfl : nI i = nI i) (by omega) (by decide) ?_
        refine v_iload C eX12_above_114 7 rfl ?_
        refine v_iconst (v := (4 : Int32)) C eX12_above_116 (by decide) ?_
        by_cases c4 : j < 4
        · refine v_icmp_ge (tgt := 134) C eX12_above_117 (by decide) (fun h => absurd h (ix_nle (a := 4) (b := j) (rfl : (4 : Int32) = nI 4) (rfl : nI j = nI j) (by omega) (by omega) (by omega))) (fun _ => ?_)
          refine v_lload_n C eX12_above_120 rfl 2 rfl ?_
          refine v_bipush (v := (16 : Int32)) C eX12_above_121 (by decide) ?_
          refine v_iload C eX12_above_123 7 rfl ?_
          refine v_imul C eX12_above_125 ?_
          refine v_natT (show ((16 : Int32)) * (nI j) = nI (16 * j) from (ix_mul (a := 16) (b := j) (rfl : (16 : Int32) = nI 16) (rfl : nI j = nI j))) ?_
          refine v_lushr C eX12_above_126 ?_
          refine v_ldc2 (v := (65535 : Int64)) C eX12_above_127 vw_1114 ?_
          refine v_land C eX12_above_130 ?_
          refine v_goto (tgt := 136) C eX12_above_131 (by decide) ?_
          refine v_lmul C eX12_above_136 ?_
          refine v_ladd C eX12_above_137 ?_
          have hmul : P i * dgA w pt j ≤ 65535 * 65535 := Nat.mul_le_mul (by omega) (by omega)
          refine v_topl (fun t1 ht1 => ?_)
          have e3 : t1 = lN (L2 (i + j) + P i * dgA w pt j) := by rw [ht1, hLm.1, hp2i, wb_shr hpt (by omega), show (65535 : Int64) = lN (2 ^ 16 - 1) from rfl, wb_mask (Nat.lt_of_le_of_lt (Nat.div_le_self _ _) hpt) (by decide), lN_mul, lN_add]; unfold dgA; rw [if_pos c4]
          refine n_last C I eX12_above_138 (hN 9 (by decide)) hn2 (i + j) (ix_add (a := i) (b := j) (rfl : nI i = nI i) (rfl : nI j = nI j)) (by omega) (by decide) ?_
          refine v_iinc (lv' := [(0, .ref (ad 49)), (1, .int (nI w)), (2, .long (lN pt)), (4, .int (nI k)), (5, .int (nI num)), (6, .int (nI p0)), (7, .int (nI i)), (8, .int (nI (j + 1)))]) C eX12_above_139 7 rfl (ix_inc _) (by decide) [1, 2, 3, 4, 5, 6, 7, 0] rfl ?_
          refine v_goto (tgt := 80) C eX12_above_142 (by decide) ?_
          refine ih2 _ ⟨fun k hk => (n_ne (by omega)).trans (hk2 k hk), by rw [jt_n]; exact n_self, hp2, fun k hk => (n_ne hk).trans (hq2 k hk), fun m => if m = i + j then L2 (i + j) + P i * dgA w pt j else L2 m, fun m hm => ?_, ?_⟩
          · rw [jt_n, up_at]; dsimp only; by_cases e : m = i + j
            · rw [if_pos e, if_pos e]; exact ⟨e3, ab_3 hLm.2 (Nat.le_trans hmul hcc)⟩
            · rw [if_neg e, if_neg e]; exact ⟨(hL2 m hm).1, ab_2 (hL2 m hm).2⟩
          · rw [vA _ _ _ _ (by omega), hV2, vS (dgA w pt) j, Nat.mul_add 16 i j, Nat.pow_add, Nat.mul_add (P i * 2 ^ (16 * i)), Nat.add_assoc]; congr 2; ac_rfl
        · refine v_icmp_ge (tgt := 134) C eX12_above_117 (by decide) (fun _ => ?_) (fun h => absurd (ix_le (a := 4) (b := j) (rfl : (4 : Int32) = nI 4) (rfl : nI j = nI j) (by omega) (by omega) (by omega)) h)
          refine v_iload_n C eX12_above_134 rfl 1 rfl ?_
          refine v_i2l C eX12_above_135 ?_
          refine v_lmul C eX12_above_136 ?_
          refine v_ladd C eX12_above_137 ?_
          have hmul : P i * dgA w pt j ≤ 65535 * 65535 := Nat.mul_le_mul (by omega) (by omega)
          refine v_topl (fun t2 ht2 => ?_)
          have e3 : t2 = lN (L2 (i + j) + P i * dgA w pt j) := by rw [ht2, hLm.1, hp2i, nI_l (by omega), lN_mul, lN_add]; unfold dgA; rw [if_neg c4]
          refine n_last C I eX12_above_138 (hN 9 (by decide)) hn2 (i + j) (ix_add (a := i) (b := j) (rfl : nI i = nI i) (rfl : nI j = nI j)) (by omega) (by decide) ?_
          refine v_iinc (lv' := [(0, .ref (ad 49)), (1, .int (nI w)), (2, .long (lN pt)), (4, .int (nI k)), (5, .int (nI num)), (6, .int (nI p0)), (7, .int (nI i)), (8, .int (nI (j + 1)))]) C eX12_above_139 7 rfl (ix_inc _) (by decide) [1, 2, 3, 4, 5, 6, 7, 0] rfl ?_
          refine v_goto (tgt := 80) C eX12_above_142 (by decide) ?_
          refine ih2 _ ⟨fun k hk => (n_ne (by omega)).trans (hk2 k hk), by rw [jt_n]; exact n_self, hp2, fun k hk => (n_ne hk).trans (hq2 k hk), fun m => if m = i + j then L2 (i + j) + P i * dgA w pt j else L2 m, fun m hm => ?_, ?_⟩
          · rw [jt_n, up_at]; dsimp only; by_cases e : m = i + j
            · rw [if_pos e, if_pos e]; exact ⟨e3, ab_3 hLm.2 (Nat.le_trans hmul hcc)⟩
            · rw [if_neg e, if_neg e]; exact ⟨(hL2 m hm).1, ab_2 (hL2 m hm).2⟩
          · rw [vA _ _ _ _ (by omega), hV2, vS (dgA w pt) j, Nat.mul_add 16 i j, Nat.pow_add, Nat.mul_add (P i * 2 ^ (16 * i)), Nat.add_assoc]; congr 2; ac_rfl
    · refine v_forP (fun j ρ => (∀ k, ¬ (k = 9 ∨ k = 10) → ρ k = σ k) ∧ ρ 9 = eJ G 16 (jt ρ 9) ∧ ρ 10 = eJ G 16 (jt ρ 10) ∧ (∀ k, ¬ (k = 9) → ρ k = σ k) ∧ ∃ L : Nat → Nat, (∀ m, m < 16 → jt ρ 9 m = lN (L m) ∧ L m ≤ (5 * i + j) * cc0) ∧ vf L 16 = vf P i * vf (dgA w pt) 5 + P i * 2 ^ (16 * i) * vf (dgA w pt) j) (fun j => [(0, .ref (ad 49)), (1, .int (nI w)), (2, .long (lN pt)), (4, .int (nI k)), (5, .int (nI num)), (6, .int (nI p0)), (7, .int (nI i)), (8, .int (nI j))]) (16 - i) ?_ ?_ _ ⟨hk1, hn1, hp1, hq1, L, fun m hm => ⟨(hL1 m hm).1, (hL1 m hm).2⟩, by rw [hV1, v0, Nat.mul_zero, Nat.add_zero]⟩
      · intro ρ hI
        obtain ⟨hk2, hn2, hp2, hq2, L2, hL2, hV2⟩ := hI
        have ho2 : ρ 49 = eO 9 (mO ad x t) := (hk2 49 (by decide)).trans ho
        refine v_iload C eX12_above_80 7 rfl ?_
        refine v_iconst (v := (5 : Int32)) C eX12_above_82 (by decide) ?_
        refine v_icmp_ge (tgt := 145) C eX12_above_83 (by decide) (fun h => absurd h (ix_nle (a := 5) (b := 16 - i) (rfl : (5 : Int32) = nI 5) (rfl : nI (16 - i) = nI (16 - i)) (by omega) (by omega) (by omega))) (fun _ => ?_)
        refine v_iload C eX12_above_86 6 rfl ?_
        refine v_iload C eX12_above_88 7 rfl ?_
        refine v_iadd C eX12_above_90 ?_
        refine v_bipush (v := (16 : Int32)) C eX12_above_91 (by decide) ?_
        refine v_icmp_ge (tgt := 145) C eX12_above_93 (by decide) (fun _ => ?_) (fun h => absurd (ix_le (a := 16) (b := i + (16 - i)) (rfl : (16 : Int32) = nI 16) (ix_add (a := i) (b := 16 - i) (rfl : nI i = nI i) (rfl : nI (16 - i) = nI (16 - i))) (by omega) (by omega) (by omega)) h)
        refine v_iinc (lv' := [(0, .ref (ad 49)), (1, .int (nI w)), (2, .long (lN pt)), (4, .int (nI k)), (5, .int (nI num)), (6, .int (nI p0)), (7, .int (nI (i + 1))), (8, .int (nI (16 - i)))]) C eX12_above_145 6 rfl (ix_inc _) (by decide) [1, 2, 3, 4, 5, 6, 0, 7] rfl ?_
        refine v_goto (tgt := 70) C eX12_above_148 (by decide) ?_
        refine v_pick (lv' := [(0, .ref (ad 49)), (1, .int (nI w)), (2, .long (lN pt)), (4, .int (nI k)), (5, .int (nI num)), (6, .int (nI p0)), (7, .int (nI (i + 1)))]) [0, 1, 2, 3, 4, 5, 6] rfl ?_
        refine ih ρ ⟨hk2, hn2, hp2, hq2, L2, fun m hm => ⟨(hL2 m hm).1, ab_1b (by omega) (hL2 m hm).2⟩, ?_⟩
        exact ab_f hV2 (vS P i) (hPz i (by omega) hi)
      · intro j hj ih2 ρ hI
        obtain ⟨hk2, hn2, hp2, hq2, L2, hL2, hV2⟩ := hI
        have ho2 : ρ 49 = eO 9 (mO ad x t) := (hk2 49 (by decide)).trans ho
        refine v_iload C eX12_above_80 7 rfl ?_
        refine v_iconst (v := (5 : Int32)) C eX12_above_82 (by decide) ?_
        refine v_icmp_ge (tgt := 145) C eX12_above_83 (by decide) (fun h => absurd h (ix_nle (a := 5) (b := j) (rfl : (5 : Int32) = nI 5) (rfl : nI j = nI j) (by omega) (by omega) (by omega))) (fun _ => ?_)
        refine v_iload C eX12_above_86 6 rfl ?_
        refine v_iload C eX12_above_88 7 rfl ?_
        refine v_iadd C eX12_above_90 ?_
        refine v_bipush (v := (16 : Int32)) C eX12_above_91 (by decide) ?_
        refine v_icmp_ge (tgt := 145) C eX12_above_93 (by decide) (fun h => absurd h (ix_nle (a := 16) (b := i + j) (rfl : (16 : Int32) = nI 16) (ix_add (a := i) (b := j) (rfl : nI i = nI i) (rfl : nI j = nI j)) (by omega) (by omega) (by omega))) (fun _ => ?_)
        refine v_aload_n C eX12_above_96 rfl 0 rfl ?_
        refine n_get C I fX12_36_X12 eX12_above_97 (hN 49 (by decide)) ho2 rfl ?_
        refine v_iload C eX12_above_100 6 rfl ?_
        refine v_iload C eX12_above_102 7 rfl ?_
        refine v_iadd C eX12_above_104 ?_
        refine v_dup2_11 C eX12_above_105 rfl rfl ?_
        refine n_lald C I eX12_above_106 (hN 9 (by decide)) hn2 (i + j) (ix_add (a := i) (b := j) (rfl : nI i = nI i) (rfl : nI j = nI j)) (by omega) (by decide) ?_
        have hLm := hL2 (i + j) (by omega)
        have hPi := hP i hi
        have hp2i : jt ρ 10 i = lN (P i) := by rw [jt_same (hq2 10 (by decide))]; exact hPi.1
        have hdl := dgA_lt (pt := pt) hw j
        refine v_aload_n C eX12_above_107 rfl 0 rfl ?_
        refine n_get C I fX12_39_X12 eX12_above_108 (hN 49 (by decide)) ho2 rfl ?_
        refine v_iload C eX12_above_111 6 rfl ?_
        refine n_lald C I eX12_above_113 (hN 10 (by decide)) hp2 i (rfl : nI i = nI i) (by omega) (by decide) ?_
        refine v_iload C eX12_above_114 7 rfl ?_
        refine v_iconst (v := (4 : Int32)) C eX12_above_116 (by decide) ?_
        by_cases c4 : j < 4
        · refine v_icmp_ge (tgt := 134) C eX12_above_117 (by decide) (fun h => absurd h (ix_nle (a := 4) (b := j) (rfl : (4 : Int32) = nI 4) (rfl : nI j = nI j) (by omega) (by omega) (by omega))) (fun _ => ?_)
          refine v_lload_n C eX12_above_120 rfl 2 rfl ?_
          refine v_bipush (v := (16 : Int32)) C eX12_above_121 (by decide) ?_
          refine v_iload C eX12_above_123 7 rfl ?_
          refine v_imul C eX12_above_125 ?_
          refine v_natT (show ((16 : Int32)) * (nI j) = nI (16 * j) from (ix_mul (a := 16) (b := j) (rfl : (16 : Int32) = nI 16) (rfl : nI j = nI j))) ?_
          refine v_lushr C eX12_above_126 ?_
          refine v_ldc2 (v := (65535 : Int64)) C eX12_above_127 vw_1114 ?_
          refine v_land C eX12_above_130 ?_
          refine v_goto (tgt := 136) C eX12_above_131 (by decide) ?_
          refine v_lmul C eX12_above_136 ?_
          refine v_ladd C eX12_above_137 ?_
          have hmul : P i * dgA w pt j ≤ 65535 * 65535 := Nat.mul_le_mul (by omega) (by omega)
          refine v_topl (fun t3 ht3 => ?_)
          have e3 : t3 = lN (L2 (i + j) + P i * dgA w pt j) := by rw [ht3, hLm.1, hp2i, wb_shr hpt (by omega), show (65535 : Int64) = lN (2 ^ 16 - 1) from rfl, wb_mask (Nat.lt_of_le_of_lt (Nat.div_le_self _ _) hpt) (by decide), lN_mul, lN_add]; unfold dgA; rw [if_pos c4]
          refine n_last C I eX12_above_138 (hN 9 (by decide)) hn2 (i + j) (ix_add (a := i) (b := j) (rfl : nI i = nI i) (rfl : nI j = nI j)) (by omega) (by decide) ?_
          refine v_iinc (lv' := [(0, .ref (ad 49)), (1, .int (nI w)), (2, .long (lN pt)), (4, .int (nI k)), (5, .int (nI num)), (6, .int (nI p0)), (7, .int (nI i)), (8, .int (nI (j + 1)))]) C eX12_above_139 7 rfl (ix_inc _) (by decide) [1, 2, 3, 4, 5, 6, 7, 0] rfl ?_
          refine v_goto (tgt := 80) C eX12_above_142 (by decide) ?_
          refine ih2 _ ⟨fun k hk => (n_ne (by omega)).trans (hk2 k hk), by rw [jt_n]; exact n_self, hp2, fun k hk => (n_ne hk).trans (hq2 k hk), fun m => if m = i + j then L2 (i + j) + P i * dgA w pt j else L2 m, fun m hm => ?_, ?_⟩
          · rw [jt_n, up_at]; dsimp only; by_cases e : m = i + j
            · rw [if_pos e, if_pos e]; exact ⟨e3, ab_3 hLm.2 (Nat.le_trans hmul hcc)⟩
            · rw [if_neg e, if_neg e]; exact ⟨(hL2 m hm).1, ab_2 (hL2 m hm).2⟩
          · rw [vA _ _ _ _ (by omega), hV2, vS (dgA w pt) j, Nat.mul_add 16 i j, Nat.pow_add, Nat.mul_add (P i * 2 ^ (16 * i)), Nat.add_assoc]; congr 2; ac_rfl
        · refine v_icmp_ge (tgt := 134) C eX12_above_117 (by decide) (fun _ => ?_) (fun h => absurd (ix_le (a := 4) (b := j) (rfl : (4 : Int32) = nI 4) (rfl : nI j = nI j) (by omega) (by omega) (by omega)) h)
          refine v_iload_n C eX12_above_134 rfl 1 rfl ?_
          refine v_i2l C eX12_above_135 ?_
          refine v_lmul C eX12_above_136 ?_
          refine v_ladd C eX12_above_137 ?_
          have hmul : P i * dgA w pt j ≤ 65535 * 65535 := Nat.mul_le_mul (by omega) (by omega)
          refine v_topl (fun t4 ht4 => ?_)
          have e3 : t4 = lN (L2 (i + j) + P i * dgA w pt j) := by rw [ht4, hLm.1, hp2i, nI_l (by omega), lN_mul, lN_add]; unfold dgA; rw [if_neg c4]
          refine n_last C I eX12_above_138 (hN 9 (by decide)) hn2 (i + j) (ix_add (a := i) (b := j) (rfl : nI i = nI i) (rfl : nI j = nI j)) (by omega) (by decide) ?_
          refine v_iinc (lv' := [(0, .ref (ad 49)), (1, .int (nI w)), (2, .long (lN pt)), (4, .int (nI k)), (5, .int (nI num)), (6, .int (nI p0)), (7, .int (nI i)), (8, .int (nI (j + 1)))]) C eX12_above_139 7 rfl (ix_inc _) (by decide) [1, 2, 3, 4, 5, 6, 7, 0] rfl ?_
          refine v_goto (tgt := 80) C eX12_above_142 (by decide) ?_
          refine ih2 _ ⟨fun k hk => (n_ne (by omega)).trans (hk2 k hk), by rw [jt_n]; exact n_self, hp2, fun k hk => (n_ne hk).trans (hq2 k hk), fun m => if m = i + j then L2 (i + j) + P i * dgA w pt j else L2 m, fun m hm => ?_, ?_⟩
          · rw [jt_n, up_at]; dsimp only; by_cases e : m = i + j
            · rw [if_pos e, if_pos e]; exact ⟨e3, ab_3 hLm.2 (Nat.le_trans hmul hcc)⟩
            · rw [if_neg e, if_neg e]; exact ⟨(hL2 m hm).1, ab_2 (hL2 m hm).2⟩
          · rw [vA _ _ _ _ (by omega), hV2, vS (dgA w pt) j, Nat.mul_add 16 i j, Nat.pow_add, Nat.mul_add (P i * 2 ^ (16 * i)), Nat.add_assoc]; congr 2; ac_rfl

end M40
