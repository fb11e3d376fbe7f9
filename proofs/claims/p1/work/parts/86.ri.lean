theorem eX12_init_0 : vD cX12_init 0 (.aload_n 0) 1 1 := ⟨by decide +kernel, rfl⟩
theorem eX12_init_1 : vD cX12_init 1 (.invokespecial 1) 3 4 := ⟨by decide +kernel, rfl⟩
theorem eX12_init_4 : vD cX12_init 4 (.aload_n 0) 1 5 := ⟨by decide +kernel, rfl⟩
theorem eX12_init_5 : vD cX12_init 5 (.ldc 9) 2 7 := ⟨by decide +kernel, rfl⟩
theorem eX12_init_7 : vD cX12_init 7 (.newarray .byte) 2 9 := ⟨by decide +kernel, rfl⟩
theorem eX12_init_9 : vD cX12_init 9 (.putfield 10) 3 12 := ⟨by decide +kernel, rfl⟩
theorem eX12_init_12 : vD cX12_init 12 (.aload_n 0) 1 13 := ⟨by decide +kernel, rfl⟩
theorem eX12_init_13 : vD cX12_init 13 (.bipush 8) 2 15 := ⟨by decide +kernel, rfl⟩
theorem eX12_init_15 : vD cX12_init 15 (.ldc 9) 2 17 := ⟨by decide +kernel, rfl⟩
theorem eX12_init_17 : vD cX12_init 17 (.multianewarray 14 2) 4 21 := ⟨by decide +kernel, rfl⟩
theorem eX12_init_21 : vD cX12_init 21 (.putfield 16) 3 24 := ⟨by decide +kernel, rfl⟩
theorem eX12_init_24 : vD cX12_init 24 (.aload_n 0) 1 25 := ⟨by decide +kernel, rfl⟩
theorem eX12_init_25 : vD cX12_init 25 (.bipush 8) 2 27 := ⟨by decide +kernel, rfl⟩
theorem eX12_init_27 : vD cX12_init 27 (.newarray .int) 2 29 := ⟨by decide +kernel, rfl⟩
theorem eX12_init_29 : vD cX12_init 29 (.putfield 19) 3 32 := ⟨by decide +kernel, rfl⟩
theorem eX12_init_32 : vD cX12_init 32 (.aload_n 0) 1 33 := ⟨by decide +kernel, rfl⟩
theorem eX12_init_33 : vD cX12_init 33 (.bipush 16) 2 35 := ⟨by decide +kernel, rfl⟩
theorem eX12_init_35 : vD cX12_init 35 (.newarray .long) 2 37 := ⟨by decide +kernel, rfl⟩
theorem eX12_init_37 : vD cX12_init 37 (.putfield 23) 3 40 := ⟨by decide +kernel, rfl⟩
theorem eX12_init_40 : vD cX12_init 40 (.aload_n 0) 1 41 := ⟨by decide +kernel, rfl⟩
theorem eX12_init_41 : vD cX12_init 41 (.bipush 80) 2 43 := ⟨by decide +kernel, rfl⟩
theorem eX12_init_43 : vD cX12_init 43 (.newarray .long) 2 45 := ⟨by decide +kernel, rfl⟩
theorem eX12_init_45 : vD cX12_init 45 (.putfield 27) 3 48 := ⟨by decide +kernel, rfl⟩
theorem eX12_init_48 : vD cX12_init 48 (.aload_n 0) 1 49 := ⟨by decide +kernel, rfl⟩
theorem eX12_init_49 : vD cX12_init 49 (.bipush 8) 2 51 := ⟨by decide +kernel, rfl⟩
theorem eX12_init_51 : vD cX12_init 51 (.newarray .long) 2 53 := ⟨by decide +kernel, rfl⟩
theorem eX12_init_53 : vD cX12_init 53 (.putfield 30) 3 56 := ⟨by decide +kernel, rfl⟩
theorem eX12_init_56 : vD cX12_init 56 (.aload_n 0) 1 57 := ⟨by decide +kernel, rfl⟩
theorem eX12_init_57 : vD cX12_init 57 (.bipush 8) 2 59 := ⟨by decide +kernel, rfl⟩
theorem eX12_init_59 : vD cX12_init 59 (.newarray .long) 2 61 := ⟨by decide +kernel, rfl⟩
theorem eX12_init_61 : vD cX12_init 61 (.putfield 33) 3 64 := ⟨by decide +kernel, rfl⟩
theorem eX12_init_64 : vD cX12_init 64 (.aload_n 0) 1 65 := ⟨by decide +kernel, rfl⟩
theorem eX12_init_65 : vD cX12_init 65 (.bipush 16) 2 67 := ⟨by decide +kernel, rfl⟩
theorem eX12_init_67 : vD cX12_init 67 (.newarray .long) 2 69 := ⟨by decide +kernel, rfl⟩
theorem eX12_init_69 : vD cX12_init 69 (.putfield 36) 3 72 := ⟨by decide +kernel, rfl⟩
theorem eX12_init_72 : vD cX12_init 72 (.aload_n 0) 1 73 := ⟨by decide +kernel, rfl⟩
theorem eX12_init_73 : vD cX12_init 73 (.bipush 16) 2 75 := ⟨by decide +kernel, rfl⟩
theorem eX12_init_75 : vD cX12_init 75 (.newarray .long) 2 77 := ⟨by decide +kernel, rfl⟩
theorem eX12_init_77 : vD cX12_init 77 (.putfield 39) 3 80 := ⟨by decide +kernel, rfl⟩
theorem eX12_init_80 : vD cX12_init 80 (.aload_n 0) 1 81 := ⟨by decide +kernel, rfl⟩
theorem eX12_init_81 : vD cX12_init 81 (.bipush 25) 2 83 := ⟨by decide +kernel, rfl⟩
theorem eX12_init_83 : vD cX12_init 83 (.newarray .int) 2 85 := ⟨by decide +kernel, rfl⟩
theorem eX12_init_85 : vD cX12_init 85 (.putfield 42) 3 88 := ⟨by decide +kernel, rfl⟩
theorem eX12_init_88 : vD cX12_init 88 (.aload_n 0) 1 89 := ⟨by decide +kernel, rfl⟩
theorem eX12_init_89 : vD cX12_init 89 (.bipush 24) 2 91 := ⟨by decide +kernel, rfl⟩
theorem eX12_init_91 : vD cX12_init 91 (.newarray .long) 2 93 := ⟨by decide +kernel, rfl⟩
theorem eX12_init_93 : vD cX12_init 93 (.putfield 45) 3 96 := ⟨by decide +kernel, rfl⟩
theorem eX12_init_96 : vD cX12_init 96 (.aload_n 0) 1 97 := ⟨by decide +kernel, rfl⟩
theorem eX12_init_97 : vD cX12_init 97 (.bipush 25) 2 99 := ⟨by decide +kernel, rfl⟩
theorem eX12_init_99 : vD cX12_init 99 (.newarray .long) 2 101 := ⟨by decide +kernel, rfl⟩
theorem eX12_init_101 : vD cX12_init 101 (.putfield 48) 3 104 := ⟨by decide +kernel, rfl⟩
theorem eX12_init_104 : vD cX12_init 104 (.aload_n 0) 1 105 := ⟨by decide +kernel, rfl⟩
theorem eX12_init_105 : vD cX12_init 105 (.bipush 25) 2 107 := ⟨by decide +kernel, rfl⟩
theorem eX12_init_107 : vD cX12_init 107 (.newarray .long) 2 109 := ⟨by decide +kernel, rfl⟩
theorem eX12_init_109 : vD cX12_init 109 (.putfield 51) 3 112 := ⟨by decide +kernel, rfl⟩
theorem eX12_init_112 : vD cX12_init 112 (.aload_n 0) 1 113 := ⟨by decide +kernel, rfl⟩
theorem eX12_init_113 : vD cX12_init 113 (.iconst 5) 1 114 := ⟨by decide +kernel, rfl⟩
theorem eX12_init_114 : vD cX12_init 114 (.newarray .long) 2 116 := ⟨by decide +kernel, rfl⟩
theorem eX12_init_116 : vD cX12_init 116 (.putfield 54) 3 119 := ⟨by decide +kernel, rfl⟩
theorem eX12_init_119 : vD cX12_init 119 (.aload_n 0) 1 120 := ⟨by decide +kernel, rfl⟩
theorem eX12_init_120 : vD cX12_init 120 (.bipush 80) 2 122 := ⟨by decide +kernel, rfl⟩
theorem eX12_init_122 : vD cX12_init 122 (.newarray .long) 2 124 := ⟨by decide +kernel, rfl⟩
theorem eX12_init_124 : vD cX12_init 124 (.putfield 57) 3 127 := ⟨by decide +kernel, rfl⟩
theorem eX12_init_127 : vD cX12_init 127 (.aload_n 0) 1 128 := ⟨by decide +kernel, rfl⟩
theorem eX12_init_128 : vD cX12_init 128 (.sipush 128) 3 131 := ⟨by decide +kernel, rfl⟩
theorem eX12_init_131 : vD cX12_init 131 (.newarray .byte) 2 133 := ⟨by decide +kernel, rfl⟩
theorem eX12_init_133 : vD cX12_init 133 (.putfield 60) 3 136 := ⟨by decide +kernel, rfl⟩
theorem eX12_init_136 : vD cX12_init 136 (.aload_n 0) 1 137 := ⟨by decide +kernel, rfl⟩
theorem eX12_init_137 : vD cX12_init 137 (.sipush 128) 3 140 := ⟨by decide +kernel, rfl⟩
theorem eX12_init_140 : vD cX12_init 140 (.newarray .byte) 2 142 := ⟨by decide +kernel, rfl⟩
theorem eX12_init_142 : vD cX12_init 142 (.putfield 63) 3 145 := ⟨by decide +kernel, rfl⟩
theorem eX12_init_145 : vD cX12_init 145 (.aload_n 0) 1 146 := ⟨by decide +kernel, rfl⟩
theorem eX12_init_146 : vD cX12_init 146 (.bipush 64) 2 148 := ⟨by decide +kernel, rfl⟩
theorem eX12_init_148 : vD cX12_init 148 (.newarray .byte) 2 150 := ⟨by decide +kernel, rfl⟩
theorem eX12_init_150 : vD cX12_init 150 (.putfield 66) 3 153 := ⟨by decide +kernel, rfl⟩
theorem eX12_init_153 : vD cX12_init 153 (.aload_n 0) 1 154 := ⟨by decide +kernel, rfl⟩
theorem eX12_init_154 : vD cX12_init 154 (.bipush 64) 2 156 := ⟨by decide +kernel, rfl⟩
theorem eX12_init_156 : vD cX12_init 156 (.newarray .byte) 2 158 := ⟨by decide +kernel, rfl⟩
theorem eX12_init_158 : vD cX12_init 158 (.putfield 69) 3 161 := ⟨by decide +kernel, rfl⟩
theorem eX12_init_161 : vD cX12_init 161 (.aload_n 0) 1 162 := ⟨by decide +kernel, rfl⟩
theorem eX12_init_162 : vD cX12_init 162 (.bipush 64) 2 164 := ⟨by decide +kernel, rfl⟩
theorem eX12_init_164 : vD cX12_init 164 (.newarray .byte) 2 166 := ⟨by decide +kernel, rfl⟩
theorem eX12_init_166 : vD cX12_init 166 (.putfield 72) 3 169 := ⟨by decide +kernel, rfl⟩
theorem eX12_init_169 : vD cX12_init 169 (.aload_n 0) 1 170 := ⟨by decide +kernel, rfl⟩
theorem eX12_init_170 : vD cX12_init 170 (.sipush 256) 3 173 := ⟨by decide +kernel, rfl⟩
theorem eX12_init_173 : vD cX12_init 173 (.newarray .byte) 2 175 := ⟨by decide +kernel, rfl⟩
theorem eX12_init_175 : vD cX12_init 175 (.putfield 75) 3 178 := ⟨by decide +kernel, rfl⟩
theorem eX12_init_178 : vD cX12_init 178 (.aload_n 0) 1 179 := ⟨by decide +kernel, rfl⟩
theorem eX12_init_179 : vD cX12_init 179 (.ldc 9) 2 181 := ⟨by decide +kernel, rfl⟩
theorem eX12_init_181 : vD cX12_init 181 (.newarray .byte) 2 183 := ⟨by decide +kernel, rfl⟩
theorem eX12_init_183 : vD cX12_init 183 (.putfield 78) 3 186 := ⟨by decide +kernel, rfl⟩
theorem eX12_init_186 : vD cX12_init 186 (.aload_n 0) 1 187 := ⟨by decide +kernel, rfl⟩
theorem eX12_init_187 : vD cX12_init 187 (.bipush 32) 2 189 := ⟨by decide +kernel, rfl⟩
theorem eX12_init_189 : vD cX12_init 189 (.newarray .byte) 2 191 := ⟨by decide +kernel, rfl⟩
theorem eX12_init_191 : vD cX12_init 191 (.putfield 81) 3 194 := ⟨by decide +kernel, rfl⟩
theorem eX12_init_194 : vD cX12_init 194 (.aload_n 0) 1 195 := ⟨by decide +kernel, rfl⟩
theorem eX12_init_195 : vD cX12_init 195 (.bipush 16) 2 197 := ⟨by decide +kernel, rfl⟩
theorem eX12_init_197 : vD cX12_init 197 (.bipush 64) 2 199 := ⟨by decide +kernel, rfl⟩
theorem eX12_init_199 : vD cX12_init 199 (.multianewarray 14 2) 4 203 := ⟨by decide +kernel, rfl⟩
theorem eX12_init_203 : vD cX12_init 203 (.putfield 84) 3 206 := ⟨by decide +kernel, rfl⟩
theorem eX12_init_206 : vD cX12_init 206 (.aload_n 0) 1 207 := ⟨by decide +kernel, rfl⟩
theorem eX12_init_207 : vD cX12_init 207 (.sipush 2144) 3 210 := ⟨by decide +kernel, rfl⟩
theorem eX12_init_210 : vD cX12_init 210 (.newarray .byte) 2 212 := ⟨by decide +kernel, rfl⟩
theorem eX12_init_212 : vD cX12_init 212 (.putfield 87) 3 215 := ⟨by decide +kernel, rfl⟩
theorem eX12_init_215 : vD cX12_init 215 (.aload_n 0) 1 216 := ⟨by decide +kernel, rfl⟩
theorem eX12_init_216 : vD cX12_init 216 (.sipush 2048) 3 219 := ⟨by decide +kernel, rfl⟩
theorem eX12_init_219 : vD cX12_init 219 (.newarray .byte) 2 221 := ⟨by decide +kernel, rfl⟩
theorem eX12_init_221 : vD cX12_init 221 (.putfield 90) 3 224 := ⟨by decide +kernel, rfl⟩
theorem eX12_init_224 : vD cX12_init 224 (.aload_n 0) 1 225 := ⟨by decide +kernel, rfl⟩
theorem eX12_init_225 : vD cX12_init 225 (.bipush 32) 2 227 := ⟨by decide +kernel, rfl⟩
theorem eX12_init_227 : vD cX12_init 227 (.newarray .byte) 2 229 := ⟨by decide +kernel, rfl⟩
theorem eX12_init_229 : vD cX12_init 229 (.putfield 93) 3 232 := ⟨by decide +kernel, rfl⟩
theorem eX12_init_232 : vD cX12_init 232 (.aload_n 0) 1 233 := ⟨by decide +kernel, rfl⟩
theorem eX12_init_233 : vD cX12_init 233 (.bipush 64) 2 235 := ⟨by decide +kernel, rfl⟩
theorem eX12_init_235 : vD cX12_init 235 (.newarray .byte) 2 237 := ⟨by decide +kernel, rfl⟩
theorem eX12_init_237 : vD cX12_init 237 (.putfield 96) 3 240 := ⟨by decide +kernel, rfl⟩
theorem eX12_init_240 : vD cX12_init 240 (.aload_n 0) 1 241 := ⟨by decide +kernel, rfl⟩
theorem eX12_init_241 : vD cX12_init 241 (.bipush 64) 2 243 := ⟨by decide +kernel, rfl⟩
theorem eX12_init_243 : vD cX12_init 243 (.newarray .byte) 2 245 := ⟨by decide +kernel, rfl⟩
theorem eX12_init_245 : vD cX12_init 245 (.putfield 99) 3 248 := ⟨by decide +kernel, rfl⟩
theorem eX12_init_248 : vD cX12_init 248 (.aload_n 0) 1 249 := ⟨by decide +kernel, rfl⟩
theorem eX12_init_249 : vD cX12_init 249 (.bipush 64) 2 251 := ⟨by decide +kernel, rfl⟩
theorem eX12_init_251 : vD cX12_init 251 (.newarray .byte) 2 253 := ⟨by decide +kernel, rfl⟩
theorem eX12_init_253 : vD cX12_init 253 (.putfield 102) 3 256 := ⟨by decide +kernel, rfl⟩
theorem eX12_init_256 : vD cX12_init 256 (.aload_n 0) 1 257 := ⟨by decide +kernel, rfl⟩
theorem eX12_init_257 : vD cX12_init 257 (.bipush 67) 2 259 := ⟨by decide +kernel, rfl⟩
theorem eX12_init_259 : vD cX12_init 259 (.newarray .int) 2 261 := ⟨by decide +kernel, rfl⟩
theorem eX12_init_261 : vD cX12_init 261 (.putfield 105) 3 264 := ⟨by decide +kernel, rfl⟩
theorem eX12_init_264 : vD cX12_init 264 (.aload_n 0) 1 265 := ⟨by decide +kernel, rfl⟩
theorem eX12_init_265 : vD cX12_init 265 (.bipush 32) 2 267 := ⟨by decide +kernel, rfl⟩
theorem eX12_init_267 : vD cX12_init 267 (.newarray .byte) 2 269 := ⟨by decide +kernel, rfl⟩
theorem eX12_init_269 : vD cX12_init 269 (.putfield 108) 3 272 := ⟨by decide +kernel, rfl⟩
theorem eX12_init_272 : vD cX12_init 272 (.aload_n 0) 1 273 := ⟨by decide +kernel, rfl⟩
theorem eX12_init_273 : vD cX12_init 273 (.bipush 32) 2 275 := ⟨by decide +kernel, rfl⟩
theorem eX12_init_275 : vD cX12_init 275 (.newarray .byte) 2 277 := ⟨by decide +kernel, rfl⟩
theorem eX12_init_277 : vD cX12_init 277 (.putfield 111) 3 280 := ⟨by decide +kernel, rfl⟩
theorem eX12_init_280 : vD cX12_init 280 (.aload_n 0) 1 281 := ⟨by decide +kernel, rfl⟩
theorem eX12_init_281 : vD cX12_init 281 (.bipush 32) 2 283 := ⟨by decide +kernel, rfl⟩
theorem eX12_init_283 : vD cX12_init 283 (.newarray .byte) 2 285 := ⟨by decide +kernel, rfl⟩
theorem eX12_init_285 : vD cX12_init 285 (.putfield 114) 3 288 := ⟨by decide +kernel, rfl⟩
theorem eX12_init_288 : vD cX12_init 288 (.aload_n 0) 1 289 := ⟨by decide +kernel, rfl⟩
theorem eX12_init_289 : vD cX12_init 289 (.bipush 32) 2 291 := ⟨by decide +kernel, rfl⟩
theorem eX12_init_291 : vD cX12_init 291 (.newarray .byte) 2 293 := ⟨by decide +kernel, rfl⟩
theorem eX12_init_293 : vD cX12_init 293 (.putfield 117) 3 296 := ⟨by decide +kernel, rfl⟩
theorem eX12_init_296 : vD cX12_init 296 (.aload_n 0) 1 297 := ⟨by decide +kernel, rfl⟩
theorem eX12_init_297 : vD cX12_init 297 (.invokevirtual 120) 3 300 := ⟨by decide +kernel, rfl⟩
theorem eX12_init_300 : vD cX12_init 300 .return_ 1 301 := ⟨by decide +kernel, rfl⟩

/-! the reference's constructor -/
def rP : List Nat := [59, 58, 49, 61, 62, 48, 47, 46, 45, 44, 43, 42, 41, 40, 39, 38, 37, 36, 63, 64, 65, 66, 35, 34, 33, 32, 31, 30, 29, 28, 11, 10, 9, 8, 7, 6, 5, 4, 3, 2, 1, 67, 68, 69, 70, 71, 72, 73, 74, 0, 57, 56, 55, 54, 53, 52, 51, 50, 27, 26, 25, 24, 23, 22, 21, 20, 19, 18, 17, 16, 15, 14, 13, 12, 60, 86, 85, 84, 83, 82, 81, 80, 79, 78, 77, 76]
def rBn : List Nat := [0, 22, 23, 24, 25, 26, 27, 28, 30, 31, 32, 33, 34, 35, 37, 38, 39, 40, 50, 51, 52, 53, 54, 55, 56, 57, 58, 59, 60, 61, 62, 63, 64, 65, 66, 67, 68, 69, 70, 71, 72, 73]
theorem rBn_all : ∀ k, k < 74 → 0 < rLn k → k ∈ rBn := by decide
theorem rP_lt : ∀ k, k < 86 → rP.getD k 0 < 87 := by decide
theorem rP_inj : ∀ i, i < 86 → ∀ j, j < 86 → rP.getD i 0 = rP.getD j 0 → i = j := by decide +kernel
def zI : Nat → Int32 := fun _ => 0
def zJ : Nat → Int64 := fun _ => 0
def θc : tT := (tnA zI 24, roA zJ 24, cbA zJ 408, rtA zJ 408)
theorem eRf_new {ad r : Nat → Nat} {b n : Nat} (h : ∀ i, i < n → ad (b + i) = r i) : (fun i => if i < n then some (r i) else none) = eRf ad b n := by
  funext i
  unfold eRf
  by_cases q : i < n
  · rw [if_pos q, if_pos q, h i q]
  · rw [if_neg q, if_neg q]
theorem sl_nil {f : Nat → Int32} : sl f 0 0 = [] := rfl
theorem RS_new {G : vG} {ad : Nat → Nat} {σ : nS} (hB : ∀ k ∈ rBn, σ k = eB G (rLn k) zI) (h2 : σ 2 = eI G 8 zI) (h36 : σ 36 = eI G 67 zI) (h5 : σ 5 = eJ G 16 zJ) (h6 : σ 6 = eJ G 80 zJ) (h11 : σ 11 = eI G 25 zI) (h12 : σ 12 = eJ G 24 zJ) (h13 : σ 13 = eJ G 25 zJ) (h14 : σ 14 = eJ G 25 zJ) (h15 : σ 15 = eJ G 5 zJ) (h16 : σ 16 = eJ G 80 zJ) (h17 : σ 17 = eB G 128 zI) (h1 : σ 1 = eR G 8 (eRf ad 50 8)) (h29 : σ 29 = eR G 16 (eRf ad 58 16)) (h49 : σ 49 = eO 9 (mO ad zI 0)) : RS G ad (zI, zJ, zJ, zJ) zI σ ∧ RAd (fun _ => []) [] σ 0 := by
  refine ⟨⟨fun k hk => ?_, ⟨by rw [bt_I h2]; exact h2, by rw [bt_I h36]; exact h36⟩, ⟨h5, h6, h11, h12⟩, ⟨by rw [jt_J h13]; exact h13, by rw [jt_J h14]; exact h14, by rw [jt_J h15]; exact h15, by rw [jt_J h16]; exact h16, by rw [bt_B h17]; exact h17⟩, ⟨h1, h29⟩, ox_O h49, ox_ag h49⟩, ⟨rfl, by decide, rfl, fun _ h => absurd h List.not_mem_nil⟩, fun i hi => ⟨by rw [bt_I h2]; rfl, Nat.zero_le _, rfl, fun _ h => absurd h List.not_mem_nil⟩⟩
  have h := hB k (rBn_all k (rLn_74 hk) hk)
  rw [bt_B h]; exact h
section RI
variable {G : vG} {B : Nat} {l : Launch}
def rL (G : vG) (o : Nat) (A : List Nat) (q1 : Nat) (r1 : Nat → Nat) (q29 : Nat) (r29 : Nat → Nat) (Lc : List (Nat × va_E)) : List (Nat × va_E) := (o, eO 9 [.ref (A.getD 0 0), .ref q1, .ref (A.getD 1 0), .int 0, .int 0, .ref (A.getD 2 0), .ref (A.getD 3 0), .ref (A.getD 4 0), .ref (A.getD 5 0), .ref (A.getD 6 0), .ref (A.getD 7 0), .ref (A.getD 8 0), .ref (A.getD 9 0), .ref (A.getD 10 0), .ref (A.getD 11 0), .ref (A.getD 12 0), .ref (A.getD 13 0), .ref (A.getD 14 0), .int 0, .int 0, .int 0, .long 0, .ref (A.getD 15 0), .ref (A.getD 16 0), .ref (A.getD 17 0), .ref (A.getD 18 0), .ref (A.getD 19 0), .ref (A.getD 20 0), .ref (A.getD 21 0), .ref q29, .ref (A.getD 22 0), .ref (A.getD 23 0), .ref (A.getD 24 0), .ref (A.getD 25 0), .ref (A.getD 26 0), .ref (A.getD 27 0), .ref (A.getD 28 0), .ref (A.getD 29 0), .ref (A.getD 30 0), .ref (A.getD 31 0), .ref (A.getD 32 0), .int 0, .int 0, .int 0, .int 0, .int 0, .int 0, .int 0, .int 0]) :: ((A.getD 32 0, eB G 32 (fun _ => 0)) :: ((A.getD 31 0, eB G 32 (fun _ => 0)) :: ((A.getD 30 0, eB G 32 (fun _ => 0)) :: ((A.getD 29 0, eB G 32 (fun _ => 0)) :: ((A.getD 28 0, eI G 67 (fun _ => 0)) :: ((A.getD 27 0, eB G 64 (fun _ => 0)) :: ((A.getD 26 0, eB G 64 (fun _ => 0)) :: ((A.getD 25 0, eB G 64 (fun _ => 0)) :: ((A.getD 24 0, eB G 32 (fun _ => 0)) :: ((A.getD 23 0, eB G 2048 (fun _ => 0)) :: ((A.getD 22 0, eB G 2144 (fun _ => 0)) :: (mRows G 16 64 q29 r29 ++ ((A.getD 21 0, eB G 32 (fun _ => 0)) :: ((A.getD 20 0, eB G 65536 (fun _ => 0)) :: ((A.getD 19 0, eB G 256 (fun _ => 0)) :: ((A.getD 18 0, eB G 64 (fun _ => 0)) :: ((A.getD 17 0, eB G 64 (fun _ => 0)) :: ((A.getD 16 0, eB G 64 (fun _ => 0)) :: ((A.getD 15 0, eB G 128 (fun _ => 0)) :: ((A.getD 14 0, eB G 128 (fun _ => 0)) :: ((A.getD 13 0, eJ G 80 (fun _ => 0)) :: ((A.getD 12 0, eJ G 5 (fun _ => 0)) :: ((A.getD 11 0, eJ G 25 (fun _ => 0)) :: ((A.getD 10 0, eJ G 25 (fun _ => 0)) :: ((A.getD 9 0, eJ G 24 (fun _ => 0)) :: ((A.getD 8 0, eI G 25 (fun _ => 0)) :: ((A.getD 7 0, eJ G 16 (fun _ => 0)) :: ((A.getD 6 0, eJ G 16 (fun _ => 0)) :: ((A.getD 5 0, eJ G 8 (fun _ => 0)) :: ((A.getD 4 0, eJ G 8 (fun _ => 0)) :: ((A.getD 3 0, eJ G 80 (fun _ => 0)) :: ((A.getD 2 0, eJ G 16 (fun _ => 0)) :: ((A.getD 1 0, eI G 8 (fun _ => 0)) :: (mRows G 8 65536 q1 r1 ++ ((A.getD 0 0, eB G 65536 (fun _ => 0)) :: Lc)))))))))))))))))))))))))))))))))))
set_option maxRecDepth 100000 in
set_option maxHeartbeats 8000000 in
theorem k_X12e {o q1 q29 : Nat} {A : List Nat} {r1 r29 : Nat → Nat} {Lc : List (Nat × va_E)} (F : lF (fun _ => none) (rL G o A q1 r1 q29 r29 Lc)) (hlc : Lc.length = 27) {p : Program} {e : Env} {s : State} {m : MethodId} {args : Array Value} {below : List Frame} {meth : Method} {c : Code} (C : vC G B p m meth c cX12_init 1 none s args yX12_init.cls) : V G B p l e (vRm 9 59 662091) s m args below meth c 1 59 662091 (MQ below (vQ G B (fun r w' => r = none ∧ ∃ (ad : Nat → Nat) (σ : nS), w' = nW ad 86 σ ∧ nI1 ad 86 ∧ RA G ad θc (fun _ => []) [] 0 σ ∧ ad 49 = o ∧ ∀ k, k < 12 → (ad (74 + k), σ (74 + k)) = lK Lc (([0, 26, 25, 24, 23, 22, 21, 20, 19, 18, 17, 16] : List Nat).getD k 0))) args s 59 662091 (fun q => B ≤ q)) (lB (fun _ => none) (rL G o A q1 r1 q29 r29 Lc)) 297 [(0, .ref o)] [.ref o] := by
  have hlen : ∀ k, k < 86 → rP.getD k 0 < (rL G o A q1 r1 q29 r29 Lc).length := fun k hk => Nat.lt_of_lt_of_eq (rP_lt k hk) (by simp [rL, mRows, hlc])
  have I : nI1 (lA (rL G o A q1 r1 q29 r29 Lc) rP) 86 := lA_apart F hlen rP_inj
  have R : RS G (lA (rL G o A q1 r1 q29 r29 Lc) rP) (zI, zJ, zJ, zJ) zI (lC (rL G o A q1 r1 q29 r29 Lc) rP) ∧ RAd (fun _ => []) [] (lC (rL G o A q1 r1 q29 r29 Lc) rP) 0 := RS_new (by
    simp only [rBn, List.forall_mem_cons]
    exact ⟨rfl, rfl, rfl, rfl, rfl, rfl, rfl, rfl, rfl, rfl, rfl, rfl, rfl, rfl, rfl, rfl, rfl, rfl, rfl, rfl, rfl, rfl, rfl, rfl, rfl, rfl, rfl, rfl, rfl, rfl, rfl, rfl, rfl, rfl, rfl, rfl, rfl, rfl, rfl, rfl, rfl, rfl, fun _ h => absurd h List.not_mem_nil⟩) rfl rfl rfl rfl rfl rfl rfl rfl rfl rfl rfl (congrArg (eR G 8) (eRf_new (r := r1) (fun i hi => by rcases i with _ | _ | _ | _ | _ | _ | _ | _ | i <;> first | rfl | omega))) (congrArg (eR G 16) (eRf_new (r := r29) (fun i hi => by rcases i with _ | _ | _ | _ | _ | _ | _ | _ | _ | _ | _ | _ | _ | _ | _ | _ | i <;> first | rfl | omega))) rfl
  refine v_sub (lA_sub F hlen) ?_
  refine v_eq (st' := [.ref (lA (rL G o A q1 r1 q29 r29 Lc) rP 49)]) rfl rfl rfl ?_
  refine n_callV (As := []) (rest := []) C I mX12_120 (rs_constants I (fun k hk => by omega) R.1 rfl rfl rfl rfl) (by decide : 49 < 86) R.1.obj rfl (by decide) (by decide) ⟨Nat.le_refl _, Nat.le_refl _⟩ rfl rfl (Nat.le_of_ble_eq_true rfl) eX12_init_297 (fun r σ' hp => ?_)
  obtain ⟨rfl, h1, h2⟩ := hp
  refine v_vret C rfl eX12_init_300 ⟨rfl, _, _, rfl, I, ⟨zI, h1, rfl, RAd.keep R.2 (fun k hk => h2 k (by omega))⟩, rfl, fun k hk => ?_⟩
  rw [h2 (74 + k) (by omega)]
  rcases k with _ | _ | _ | _ | _ | _ | _ | _ | _ | _ | _ | _ | k <;> first | rfl | omega
end RI
