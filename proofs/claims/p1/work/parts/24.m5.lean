theorem eX12_put__0 : vD cX12_put_ 0 (.iconst 0) 1 1 := ⟨by decide +kernel, rfl⟩
theorem eX12_put__1 : vD cX12_put_ 1 (.istore 4) 2 3 := ⟨by decide +kernel, rfl⟩
theorem eX12_put__3 : vD cX12_put_ 3 (.iload 4) 2 5 := ⟨by decide +kernel, rfl⟩
theorem eX12_put__5 : vD cX12_put_ 5 (.iload_n 3) 1 6 := ⟨by decide +kernel, rfl⟩
theorem eX12_put__6 : vD cX12_put_ 6 (.if_icmp .ge 19) 3 9 := ⟨by decide +kernel, rfl⟩
theorem eX12_put__9 : vD cX12_put_ 9 (.aload_n 0) 1 10 := ⟨by decide +kernel, rfl⟩
theorem eX12_put__10 : vD cX12_put_ 10 (.aload_n 1) 1 11 := ⟨by decide +kernel, rfl⟩
theorem eX12_put__11 : vD cX12_put_ 11 (.iload_n 2) 1 12 := ⟨by decide +kernel, rfl⟩
theorem eX12_put__12 : vD cX12_put_ 12 (.iload 4) 2 14 := ⟨by decide +kernel, rfl⟩
theorem eX12_put__14 : vD cX12_put_ 14 .iadd 1 15 := ⟨by decide +kernel, rfl⟩
theorem eX12_put__15 : vD cX12_put_ 15 .baload 1 16 := ⟨by decide +kernel, rfl⟩
theorem eX12_put__16 : vD cX12_put_ 16 (.invokevirtual 171) 3 19 := ⟨by decide +kernel, rfl⟩
theorem eX12_put__19 : vD cX12_put_ 19 (.iinc 4 1) 3 22 := ⟨by decide +kernel, rfl⟩
theorem eX12_put__22 : vD cX12_put_ 22 (.goto (-19)) 3 25 := ⟨by decide +kernel, rfl⟩
theorem eX12_put__25 : vD cX12_put_ 25 .return_ 1 26 := ⟨by decide +kernel, rfl⟩
theorem eX12_blockOf_0 : vD cX12_blockOf 0 (.iload_n 0) 1 1 := ⟨by decide +kernel, rfl⟩
theorem eX12_blockOf_1 : vD cX12_blockOf 1 (.iconst 1) 1 2 := ⟨by decide +kernel, rfl⟩
theorem eX12_blockOf_2 : vD cX12_blockOf 2 (.if_icmp .eq 8) 3 5 := ⟨by decide +kernel, rfl⟩
theorem eX12_blockOf_5 : vD cX12_blockOf 5 (.iload_n 0) 1 6 := ⟨by decide +kernel, rfl⟩
theorem eX12_blockOf_6 : vD cX12_blockOf 6 (.iconst 4) 1 7 := ⟨by decide +kernel, rfl⟩
theorem eX12_blockOf_7 : vD cX12_blockOf 7 (.if_icmp .ne 8) 3 10 := ⟨by decide +kernel, rfl⟩
theorem eX12_blockOf_10 : vD cX12_blockOf 10 (.bipush 64) 2 12 := ⟨by decide +kernel, rfl⟩
theorem eX12_blockOf_12 : vD cX12_blockOf 12 (.goto 6) 3 15 := ⟨by decide +kernel, rfl⟩
theorem eX12_blockOf_15 : vD cX12_blockOf 15 (.sipush 128) 3 18 := ⟨by decide +kernel, rfl⟩
theorem eX12_blockOf_18 : vD cX12_blockOf 18 .ireturn 1 19 := ⟨by decide +kernel, rfl⟩
theorem eX12_begin_0 : vD cX12_begin 0 (.aload_n 0) 1 1 := ⟨by decide +kernel, rfl⟩
theorem eX12_begin_1 : vD cX12_begin 1 (.iload_n 1) 1 2 := ⟨by decide +kernel, rfl⟩
theorem eX12_begin_2 : vD cX12_begin 2 (.putfield 177) 3 5 := ⟨by decide +kernel, rfl⟩
theorem eX12_begin_5 : vD cX12_begin 5 (.aload_n 0) 1 6 := ⟨by decide +kernel, rfl⟩
theorem eX12_begin_6 : vD cX12_begin 6 (.iconst 0) 1 7 := ⟨by decide +kernel, rfl⟩
theorem eX12_begin_7 : vD cX12_begin 7 (.putfield 180) 3 10 := ⟨by decide +kernel, rfl⟩
theorem eX12_begin_10 : vD cX12_begin 10 (.aload_n 0) 1 11 := ⟨by decide +kernel, rfl⟩
theorem eX12_begin_11 : vD cX12_begin 11 (.lconst 0) 1 12 := ⟨by decide +kernel, rfl⟩
theorem eX12_begin_12 : vD cX12_begin 12 (.putfield 183) 3 15 := ⟨by decide +kernel, rfl⟩
theorem eX12_begin_15 : vD cX12_begin 15 (.iconst 0) 1 16 := ⟨by decide +kernel, rfl⟩
theorem eX12_begin_16 : vD cX12_begin 16 (.istore_n 2) 1 17 := ⟨by decide +kernel, rfl⟩
theorem eX12_begin_17 : vD cX12_begin 17 (.iload_n 2) 1 18 := ⟨by decide +kernel, rfl⟩
theorem eX12_begin_18 : vD cX12_begin 18 (.bipush 25) 2 20 := ⟨by decide +kernel, rfl⟩
theorem eX12_begin_20 : vD cX12_begin 20 (.if_icmp .ge 16) 3 23 := ⟨by decide +kernel, rfl⟩
theorem eX12_begin_23 : vD cX12_begin 23 (.aload_n 0) 1 24 := ⟨by decide +kernel, rfl⟩
theorem eX12_begin_24 : vD cX12_begin 24 (.getfield 48) 3 27 := ⟨by decide +kernel, rfl⟩
theorem eX12_begin_27 : vD cX12_begin 27 (.iload_n 2) 1 28 := ⟨by decide +kernel, rfl⟩
theorem eX12_begin_28 : vD cX12_begin 28 (.lconst 0) 1 29 := ⟨by decide +kernel, rfl⟩
theorem eX12_begin_29 : vD cX12_begin 29 .lastore 1 30 := ⟨by decide +kernel, rfl⟩
theorem eX12_begin_30 : vD cX12_begin 30 (.iinc 2 1) 3 33 := ⟨by decide +kernel, rfl⟩
theorem eX12_begin_33 : vD cX12_begin 33 (.goto (-16)) 3 36 := ⟨by decide +kernel, rfl⟩
theorem eX12_begin_36 : vD cX12_begin 36 (.aload_n 0) 1 37 := ⟨by decide +kernel, rfl⟩
theorem eX12_begin_37 : vD cX12_begin 37 (.iload_n 1) 1 38 := ⟨by decide +kernel, rfl⟩
theorem eX12_begin_38 : vD cX12_begin 38 (.bipush 11) 2 40 := ⟨by decide +kernel, rfl⟩
theorem eX12_begin_40 : vD cX12_begin 40 (.if_icmp .ne 9) 3 43 := ⟨by decide +kernel, rfl⟩
theorem eX12_begin_43 : vD cX12_begin 43 (.sipush 168) 3 46 := ⟨by decide +kernel, rfl⟩
theorem eX12_begin_46 : vD cX12_begin 46 (.goto 38) 3 49 := ⟨by decide +kernel, rfl⟩
theorem eX12_begin_49 : vD cX12_begin 49 (.iload_n 1) 1 50 := ⟨by decide +kernel, rfl⟩
theorem eX12_begin_50 : vD cX12_begin 50 (.bipush 12) 2 52 := ⟨by decide +kernel, rfl⟩
theorem eX12_begin_52 : vD cX12_begin 52 (.if_icmp .ne 9) 3 55 := ⟨by decide +kernel, rfl⟩
theorem eX12_begin_55 : vD cX12_begin 55 (.sipush 136) 3 58 := ⟨by decide +kernel, rfl⟩
theorem eX12_begin_58 : vD cX12_begin 58 (.goto 26) 3 61 := ⟨by decide +kernel, rfl⟩
theorem eX12_begin_61 : vD cX12_begin 61 (.iload_n 1) 1 62 := ⟨by decide +kernel, rfl⟩
theorem eX12_begin_62 : vD cX12_begin 62 (.bipush 6) 2 64 := ⟨by decide +kernel, rfl⟩
theorem eX12_begin_64 : vD cX12_begin 64 (.if_icmp .le 16) 3 67 := ⟨by decide +kernel, rfl⟩
theorem eX12_begin_67 : vD cX12_begin 67 (.sipush 200) 3 70 := ⟨by decide +kernel, rfl⟩
theorem eX12_begin_70 : vD cX12_begin 70 (.iconst 2) 1 71 := ⟨by decide +kernel, rfl⟩
theorem eX12_begin_71 : vD cX12_begin 71 (.iload_n 1) 1 72 := ⟨by decide +kernel, rfl⟩
theorem eX12_begin_72 : vD cX12_begin 72 (.invokestatic 187) 3 75 := ⟨by decide +kernel, rfl⟩
theorem eX12_begin_75 : vD cX12_begin 75 .imul 1 76 := ⟨by decide +kernel, rfl⟩
theorem eX12_begin_76 : vD cX12_begin 76 .isub 1 77 := ⟨by decide +kernel, rfl⟩
theorem eX12_begin_77 : vD cX12_begin 77 (.goto 7) 3 80 := ⟨by decide +kernel, rfl⟩
theorem eX12_begin_80 : vD cX12_begin 80 (.iload_n 1) 1 81 := ⟨by decide +kernel, rfl⟩
theorem eX12_begin_81 : vD cX12_begin 81 (.invokestatic 190) 3 84 := ⟨by decide +kernel, rfl⟩
theorem eX12_begin_84 : vD cX12_begin 84 (.putfield 193) 3 87 := ⟨by decide +kernel, rfl⟩
theorem eX12_begin_87 : vD cX12_begin 87 (.iconst 0) 1 88 := ⟨by decide +kernel, rfl⟩
theorem eX12_begin_88 : vD cX12_begin 88 (.istore_n 2) 1 89 := ⟨by decide +kernel, rfl⟩
theorem eX12_begin_89 : vD cX12_begin 89 (.iload_n 2) 1 90 := ⟨by decide +kernel, rfl⟩
theorem eX12_begin_90 : vD cX12_begin 90 (.bipush 8) 2 92 := ⟨by decide +kernel, rfl⟩
theorem eX12_begin_92 : vD cX12_begin 92 (.if_icmp .ge 111) 3 95 := ⟨by decide +kernel, rfl⟩
theorem eX12_begin_95 : vD cX12_begin 95 (.iload_n 1) 1 96 := ⟨by decide +kernel, rfl⟩
theorem eX12_begin_96 : vD cX12_begin 96 (.bipush 7) 2 98 := ⟨by decide +kernel, rfl⟩
theorem eX12_begin_98 : vD cX12_begin 98 (.if_icmp .ge 105) 3 101 := ⟨by decide +kernel, rfl⟩
theorem eX12_begin_101 : vD cX12_begin 101 (.aload_n 0) 1 102 := ⟨by decide +kernel, rfl⟩
theorem eX12_begin_102 : vD cX12_begin 102 (.getfield 48) 3 105 := ⟨by decide +kernel, rfl⟩
theorem eX12_begin_105 : vD cX12_begin 105 (.iload_n 2) 1 106 := ⟨by decide +kernel, rfl⟩
theorem eX12_begin_106 : vD cX12_begin 106 (.iload_n 1) 1 107 := ⟨by decide +kernel, rfl⟩
theorem eX12_begin_107 : vD cX12_begin 107 (.iconst 1) 1 108 := ⟨by decide +kernel, rfl⟩
theorem eX12_begin_108 : vD cX12_begin 108 (.if_icmp .ne 15) 3 111 := ⟨by decide +kernel, rfl⟩
theorem eX12_begin_111 : vD cX12_begin 111 (.aload_n 0) 1 112 := ⟨by decide +kernel, rfl⟩
theorem eX12_begin_112 : vD cX12_begin 112 (.getfield 23) 3 115 := ⟨by decide +kernel, rfl⟩
theorem eX12_begin_115 : vD cX12_begin 115 (.iload_n 2) 1 116 := ⟨by decide +kernel, rfl⟩
theorem eX12_begin_116 : vD cX12_begin 116 .laload 1 117 := ⟨by decide +kernel, rfl⟩
theorem eX12_begin_117 : vD cX12_begin 117 (.bipush 32) 2 119 := ⟨by decide +kernel, rfl⟩
theorem eX12_begin_119 : vD cX12_begin 119 .lushr 1 120 := ⟨by decide +kernel, rfl⟩
theorem eX12_begin_120 : vD cX12_begin 120 (.goto 76) 3 123 := ⟨by decide +kernel, rfl⟩
theorem eX12_begin_123 : vD cX12_begin 123 (.iload_n 1) 1 124 := ⟨by decide +kernel, rfl⟩
theorem eX12_begin_124 : vD cX12_begin 124 (.iconst 4) 1 125 := ⟨by decide +kernel, rfl⟩
theorem eX12_begin_125 : vD cX12_begin 125 (.if_icmp .ne 19) 3 128 := ⟨by decide +kernel, rfl⟩
theorem eX12_begin_128 : vD cX12_begin 128 (.aload_n 0) 1 129 := ⟨by decide +kernel, rfl⟩
theorem eX12_begin_129 : vD cX12_begin 129 (.getfield 23) 3 132 := ⟨by decide +kernel, rfl⟩
theorem eX12_begin_132 : vD cX12_begin 132 (.bipush 8) 2 134 := ⟨by decide +kernel, rfl⟩
theorem eX12_begin_134 : vD cX12_begin 134 (.iload_n 2) 1 135 := ⟨by decide +kernel, rfl⟩
theorem eX12_begin_135 : vD cX12_begin 135 .iadd 1 136 := ⟨by decide +kernel, rfl⟩
theorem eX12_begin_136 : vD cX12_begin 136 .laload 1 137 := ⟨by decide +kernel, rfl⟩
theorem eX12_begin_137 : vD cX12_begin 137 (.ldc2_w 196) 3 140 := ⟨by decide +kernel, rfl⟩
theorem eX12_begin_140 : vD cX12_begin 140 .land 1 141 := ⟨by decide +kernel, rfl⟩
theorem eX12_begin_141 : vD cX12_begin 141 (.goto 55) 3 144 := ⟨by decide +kernel, rfl⟩
theorem eX12_begin_144 : vD cX12_begin 144 (.iload_n 1) 1 145 := ⟨by decide +kernel, rfl⟩
theorem eX12_begin_145 : vD cX12_begin 145 (.iconst 2) 1 146 := ⟨by decide +kernel, rfl⟩
theorem eX12_begin_146 : vD cX12_begin 146 (.if_icmp .ne 15) 3 149 := ⟨by decide +kernel, rfl⟩
theorem eX12_begin_149 : vD cX12_begin 149 (.aload_n 0) 1 150 := ⟨by decide +kernel, rfl⟩
theorem eX12_begin_150 : vD cX12_begin 150 (.getfield 23) 3 153 := ⟨by decide +kernel, rfl⟩
theorem eX12_begin_153 : vD cX12_begin 153 (.bipush 8) 2 155 := ⟨by decide +kernel, rfl⟩
theorem eX12_begin_155 : vD cX12_begin 155 (.iload_n 2) 1 156 := ⟨by decide +kernel, rfl⟩
theorem eX12_begin_156 : vD cX12_begin 156 .iadd 1 157 := ⟨by decide +kernel, rfl⟩
theorem eX12_begin_157 : vD cX12_begin 157 .laload 1 158 := ⟨by decide +kernel, rfl⟩
theorem eX12_begin_158 : vD cX12_begin 158 (.goto 38) 3 161 := ⟨by decide +kernel, rfl⟩
theorem eX12_begin_161 : vD cX12_begin 161 (.iload_n 1) 1 162 := ⟨by decide +kernel, rfl⟩
theorem eX12_begin_162 : vD cX12_begin 162 (.iconst 5) 1 163 := ⟨by decide +kernel, rfl⟩
theorem eX12_begin_163 : vD cX12_begin 163 (.if_icmp .ne 12) 3 166 := ⟨by decide +kernel, rfl⟩
theorem eX12_begin_166 : vD cX12_begin 166 (.aload_n 0) 1 167 := ⟨by decide +kernel, rfl⟩
theorem eX12_begin_167 : vD cX12_begin 167 (.getfield 30) 3 170 := ⟨by decide +kernel, rfl⟩
theorem eX12_begin_170 : vD cX12_begin 170 (.iload_n 2) 1 171 := ⟨by decide +kernel, rfl⟩
theorem eX12_begin_171 : vD cX12_begin 171 .laload 1 172 := ⟨by decide +kernel, rfl⟩
theorem eX12_begin_172 : vD cX12_begin 172 (.goto 24) 3 175 := ⟨by decide +kernel, rfl⟩
theorem eX12_begin_175 : vD cX12_begin 175 (.iload_n 1) 1 176 := ⟨by decide +kernel, rfl⟩
theorem eX12_begin_176 : vD cX12_begin 176 (.bipush 6) 2 178 := ⟨by decide +kernel, rfl⟩
theorem eX12_begin_178 : vD cX12_begin 178 (.if_icmp .ne 12) 3 181 := ⟨by decide +kernel, rfl⟩
theorem eX12_begin_181 : vD cX12_begin 181 (.aload_n 0) 1 182 := ⟨by decide +kernel, rfl⟩
theorem eX12_begin_182 : vD cX12_begin 182 (.getfield 33) 3 185 := ⟨by decide +kernel, rfl⟩
theorem eX12_begin_185 : vD cX12_begin 185 (.iload_n 2) 1 186 := ⟨by decide +kernel, rfl⟩
theorem eX12_begin_186 : vD cX12_begin 186 .laload 1 187 := ⟨by decide +kernel, rfl⟩
theorem eX12_begin_187 : vD cX12_begin 187 (.goto 9) 3 190 := ⟨by decide +kernel, rfl⟩
theorem eX12_begin_190 : vD cX12_begin 190 (.aload_n 0) 1 191 := ⟨by decide +kernel, rfl⟩
theorem eX12_begin_191 : vD cX12_begin 191 (.getfield 23) 3 194 := ⟨by decide +kernel, rfl⟩
theorem eX12_begin_194 : vD cX12_begin 194 (.iload_n 2) 1 195 := ⟨by decide +kernel, rfl⟩
theorem eX12_begin_195 : vD cX12_begin 195 .laload 1 196 := ⟨by decide +kernel, rfl⟩
theorem eX12_begin_196 : vD cX12_begin 196 .lastore 1 197 := ⟨by decide +kernel, rfl⟩
theorem eX12_begin_197 : vD cX12_begin 197 (.iinc 2 1) 3 200 := ⟨by decide +kernel, rfl⟩
theorem eX12_begin_200 : vD cX12_begin 200 (.goto (-111)) 3 203 := ⟨by decide +kernel, rfl⟩
theorem eX12_begin_203 : vD cX12_begin 203 .return_ 1 204 := ⟨by decide +kernel, rfl⟩

def hPutN (T : Nat → Int32) (Rc K : Nat → Int64) (k : Nat) (f : Nat → Int32) (a n : Nat) (h : hT) : hT := itN (fun i h => hPut T Rc K k (f (a + i)) h) n h
theorem rateK_pos {k : Nat} (hk : k = 1 ∨ k = 3 ∨ k = 12) : 1 < rateK k := by rcases hk with rfl | rfl | rfl <;> decide
theorem hPut_lt {T : Nat → Int32} {Rc K : Nat → Int64} {k : Nat} (hk : k = 1 ∨ k = 3 ∨ k = 12) (v : Int32) (h : hT) (hf : h.2.2.2.2.2.1 < rateK k) : (hPut T Rc K k v h).2.2.2.2.2.1 < rateK k := by
  obtain ⟨S, O, D, W, Bk, f, t⟩ := h
  have h1 : (hPut1 k v (S, O, D, W, Bk, f, t)).2.2.2.2.2.1 = f + 1 := by unfold hPut1; by_cases q : k = 12 <;> simp [q]
  unfold hPut
  by_cases q : f + 1 = rateK k
  · rw [if_pos q]
    generalize hPut1 k v (S, O, D, W, Bk, f, t) = g
    obtain ⟨S, O, D, W, Bk, f, t⟩ := g
    have := rateK_pos hk
    unfold hBlk
    by_cases q1 : k = 12
    · simp [q1, rateK]
    · by_cases q2 : k = 1
      · simp [q2, rateK]
      · simp [q1, q2]; omega
  · rw [if_neg q, h1]
    have : f < rateK k := hf
    omega
theorem hPutN_lt {T : Nat → Int32} {Rc K : Nat → Int64} {k : Nat} (hk : k = 1 ∨ k = 3 ∨ k = 12) (f : Nat → Int32) (a : Nat) (h : hT) (hf : h.2.2.2.2.2.1 < rateK k) : ∀ n, (hPutN T Rc K k f a n h).2.2.2.2.2.1 < rateK k
  | 0 => hf
  | n + 1 => hPut_lt hk _ _ (hPutN_lt hk f a h hf n)
theorem hσ_ne {G : vG} {ad : Nat → Nat} {σ : nS} {x : Nat → Int32} {k : Nat} {h : hT} {q : Nat} (hq : q ∉ [13, 14, 15, 16, 17, 49]) : hσ G ad σ x k h q = σ q := by
  simp only [List.mem_cons, List.not_mem_nil, or_false, not_or] at hq
  simp [hσ, va_up, hq]
section M5
variable {G : vG} {B : Nat} {l : Launch} {ad : Nat → Nat} {N : Nat}
theorem c_put (I : nI1 ad N) (hN : ∀ k, k < 74 → k < N) {σ : nS} {x T : Nat → Int32} {Rc K : Nat → Int64} (h11 : σ 11 = eI G 25 T) (h12 : σ 12 = eJ G 24 Rc) (h6 : σ 6 = eJ G 80 K) {k : Nat} (hk : k = 1 ∨ k = 3 ∨ k = 12) (h : hT) (hf : h.2.2.2.2.2.1 < rateK k) (v : Int32) : nOk G B l ad N yX12_put cX12_put 2 none 2 0 0 [.ref (ad 49), .int v] (hσ G ad σ x k h) (fun r σ' => r = none ∧ σ' = hσ G ad σ x k (hPut T Rc K k v h)) := by
  obtain ⟨S, O, D, W, Bk, fl, tt⟩ := h
  rcases hk with rfl | rfl | rfl
  · exact c_put1 I hN h11 h12 h6 S O D W Bk fl tt v hf
  · exact c_put3 I hN h11 h12 h6 S O D W Bk fl tt v hf
  · exact c_put12 I hN h11 h12 h6 S O D W Bk fl tt v hf
set_option maxRecDepth 100000 in
set_option maxHeartbeats 4000000 in
theorem c_putA (I : nI1 ad N) (hN : ∀ k, k < 74 → k < N) {σ : nS} {x T : Nat → Int32} {Rc K : Nat → Int64} (h11 : σ 11 = eI G 25 T) (h12 : σ 12 = eJ G 24 Rc) (h6 : σ 6 = eJ G 80 K) {k : Nat} (hk : k = 1 ∨ k = 3 ∨ k = 12) (h : hT) (hf : h.2.2.2.2.2.1 < rateK k) {kb nb : Nat} {f : Nat → Int32} (hkN : kb < N) (hkb : kb ∉ [13, 14, 15, 16, 17, 49]) (hb : σ kb = eB G nb f) (a n : Nat) (han : a + n ≤ nb) (hnb : nb < 2 ^ 31) : nOk G B l ad N yX12_put_ cX12_put_ 5 none 3 0 0 [.ref (ad 49), .ref (ad kb), .int (nI a), .int (nI n)] (hσ G ad σ x k h) (fun r σ' => r = none ∧ σ' = hσ G ad σ x k (hPutN T Rc K k f a n h)) := by
  refine vOk.of (by decide +kernel) (Nat.le_of_ble_eq_true rfl) ?_
  intro p e s m args below meth c C
  refine v_eq (lv' := [(0, .ref (ad 49)), (1, .ref (ad kb)), (2, .int (nI a)), (3, .int (nI n))]) rfl rfl rfl ?_
  refine v_iconst (v := (0 : Int32)) C eX12_put__0 (by decide) ?_
  refine v_istore (lv' := [(0, .ref (ad 49)), (1, .ref (ad kb)), (2, .int (nI a)), (3, .int (nI n)), (4, .int ((0 : Int32)))]) C eX12_put__1 (by decide) [1, 2, 3, 4, 0] rfl ?_
  refine v_forV (fun i => hσ G ad σ x k (hPutN T Rc K k f a i h)) (fun i => [(0, .ref (ad 49)), (1, .ref (ad kb)), (2, .int (nI a)), (3, .int (nI n)), (4, .int (nI i))]) n ?_ ?_
  · refine v_iload C eX12_put__3 4 rfl ?_
    refine v_iload_n C eX12_put__5 rfl 3 rfl ?_
    refine v_icmp_ge (tgt := 25) C eX12_put__6 (by decide) (fun _ => ?_) (fun h => absurd (ix_le (a := n) (b := n) (rfl : nI n = nI n) (rfl : nI n = nI n) (by omega) (by omega) (by omega)) h)
    exact n_vret C rfl eX12_put__25 ⟨rfl, rfl⟩
  · intro i hi ih
    refine v_iload C eX12_put__3 4 rfl ?_
    refine v_iload_n C eX12_put__5 rfl 3 rfl ?_
    refine v_icmp_ge (tgt := 25) C eX12_put__6 (by decide) (fun h => absurd h (ix_nle (a := n) (b := i) (rfl : nI n = nI n) (rfl : nI i = nI i) (by omega) (by omega) (by omega))) (fun _ => ?_)
    refine v_aload_n C eX12_put__9 rfl 0 rfl ?_
    refine v_aload_n C eX12_put__10 rfl 1 rfl ?_
    refine v_iload_n C eX12_put__11 rfl 2 rfl ?_
    refine v_iload C eX12_put__12 4 rfl ?_
    refine v_iadd C eX12_put__14 ?_
    refine n_bald C I eX12_put__15 hkN ((hσ_ne hkb).trans hb) (a + i) (ix_add (a := a) (b := i) (rfl : nI a = nI a) (rfl : nI i = nI i)) (by omega) (by omega) ?_
    refine n_callV (As := [.int (f (a + i))]) (rest := []) C I mX12_171 (c_put I hN h11 h12 h6 hk (hPutN T Rc K k f a i h) (hPutN_lt hk f a h hf i) (f (a + i))) (hN 49 (by decide)) rfl rfl (by decide) (by decide) ⟨by decide, by decide⟩ rfl rfl (Nat.le_of_ble_eq_true rfl) eX12_put__16 (fun r σ' hp => ?_)
    obtain ⟨rfl, rfl⟩ := hp
    refine v_iinc (lv' := [(0, .ref (ad 49)), (1, .ref (ad kb)), (2, .int (nI a)), (3, .int (nI n)), (4, .int (nI (i + 1)))]) C eX12_put__19 4 rfl (ix_inc _) (by decide) [1, 2, 3, 4, 0] rfl ?_
    refine v_goto (tgt := 3) C eX12_put__22 (by decide) ?_
    exact ih

set_option maxRecDepth 100000 in
set_option maxHeartbeats 4000000 in
theorem c_blockOf1 {σ : nS}  : nOk G B l ad N yX12_blockOf cX12_blockOf 1 (some .int) 0 0 0 [.int (nI 1)] σ (fun r σ' => r = some (.int (64 : Int32)) ∧ σ' = σ) := by
  refine vOk.of (by decide +kernel) (Nat.le_of_ble_eq_true rfl) ?_
  intro p e s m args below meth c C
  refine v_eq (lv' := [(0, .int (nI 1))]) rfl rfl rfl ?_
  refine v_iload_n C eX12_blockOf_0 rfl 0 rfl ?_
  refine v_iconst (v := (1 : Int32)) C eX12_blockOf_1 (by decide) ?_
  refine v_icmp_eq (tgt := 10) C eX12_blockOf_2 (by decide) (fun _ => ?_) (fun h => absurd (ix_eq (a := 1) (b := 1) (rfl : nI 1 = nI 1) (rfl : (1 : Int32) = nI 1) (by omega) (by omega) (by omega)) h)
  refine v_bipush (v := (64 : Int32)) C eX12_blockOf_10 (by decide) ?_
  refine v_goto (tgt := 18) C eX12_blockOf_12 (by decide) ?_
  exact n_iret C rfl eX12_blockOf_18 ⟨rfl, rfl⟩

set_option maxRecDepth 100000 in
set_option maxHeartbeats 4000000 in
theorem c_blockOf3 {σ : nS}  : nOk G B l ad N yX12_blockOf cX12_blockOf 1 (some .int) 0 0 0 [.int (nI 3)] σ (fun r σ' => r = some (.int (128 : Int32)) ∧ σ' = σ) := by
  refine vOk.of (by decide +kernel) (Nat.le_of_ble_eq_true rfl) ?_
  intro p e s m args below meth c C
  refine v_eq (lv' := [(0, .int (nI 3))]) rfl rfl rfl ?_
  refine v_iload_n C eX12_blockOf_0 rfl 0 rfl ?_
  refine v_iconst (v := (1 : Int32)) C eX12_blockOf_1 (by decide) ?_
  refine v_icmp_eq (tgt := 10) C eX12_blockOf_2 (by decide) (fun h => absurd h (ix_ne (a := 3) (b := 1) (rfl : nI 3 = nI 3) (rfl : (1 : Int32) = nI 1) (by omega) (by omega) (by omega))) (fun _ => ?_)
  refine v_iload_n C eX12_blockOf_5 rfl 0 rfl ?_
  refine v_iconst (v := (4 : Int32)) C eX12_blockOf_6 (by decide) ?_
  refine v_icmp_ne (tgt := 15) C eX12_blockOf_7 (by decide) (fun _ => ?_) (fun h => absurd h (ix_ne (a := 3) (b := 4) (rfl : nI 3 = nI 3) (rfl : (4 : Int32) = nI 4) (by omega) (by omega) (by omega)))
  refine v_sipush (v := (128 : Int32)) C eX12_blockOf_15 (by decide) ?_
  exact n_iret C rfl eX12_blockOf_18 ⟨rfl, rfl⟩

def zS (n : Nat) (S : Nat → Int64) : Nat → Int64 := itN (fun i S => vp_updL S i 0) n S
def bgS (k : Nat) (Rt : Nat → Int64) (n : Nat) (S : Nat → Int64) : Nat → Int64 := itN (fun i S => vp_updL S i (if k = 1 then us64 (Rt i) 32 else Rt i)) n S
/-- a hash begun -/
def hBeg (k : Nat) (Rt : Nat → Int64) (h : hT) : hT := match h with
  | (S, O, D, W, Bk, _, _) => (if k = 12 then zS 25 S else bgS k Rt 8 (zS 25 S), O, D, W, Bk, 0, 0)
def gσ (G : vG) (ad : Nat → Nat) (σ : nS) (x : Nat → Int32) (h : hT) : nS := va_up (va_up (va_up (va_up (va_up (va_up σ 13 (eJ G 25 h.1)) 14 (eJ G 25 h.2.1)) 15 (eJ G 5 h.2.2.1)) 16 (eJ G 80 h.2.2.2.1)) 17 (eB G 128 h.2.2.2.2.1)) 49 (eO 9 (mO ad x h.2.2.2.2.2.2))
theorem hσ_g {G : vG} {ad : Nat → Nat} {σ : nS} {x : Nat → Int32} {k : Nat} {h : hT} : hσ G ad σ x k h = gσ G ad σ (upd (upd (upd x 18 (nI k)) 19 (nI (rateK k))) 20 (nI h.2.2.2.2.2.1)) h := rfl
set_option maxRecDepth 100000 in
set_option maxHeartbeats 4000000 in
theorem c_begin1 (I : nI1 ad N) (hN : ∀ k, k < 74 → k < N) {σ : nS} {x T : Nat → Int32} {Rc K : Nat → Int64} (h11 : σ 11 = eI G 25 T) (h12 : σ 12 = eJ G 24 Rc) (h6 : σ 6 = eJ G 80 K) {Rt : Nat → Int64} (h5 : σ 5 = eJ G 16 Rt) (S O D W : Nat → Int64) (Bk : Nat → Int32) (fl : Nat) (tt : Int64) : nOk G B l ad N yX12_begin cX12_begin 3 none 1 0 0 [.ref (ad 49), .int (nI 1)] (gσ G ad σ x (S, O, D, W, Bk, fl, tt)) (fun r σ' => r = none ∧ σ' = hσ G ad σ x 1 (hBeg 1 Rt (S, O, D, W, Bk, fl, tt))) := by
  refine vOk.of (by decide +kernel) (Nat.le_of_ble_eq_true rfl) ?_
  intro p e s m args below meth c C
  refine v_eq (lv' := [(0, .ref (ad 49)), (1, .int (nI 1))]) rfl rfl rfl ?_
  refine v_eq (w' := nW ad N (va_up (va_up (va_up (va_up (va_up (va_up σ 13 (eJ G 25 S)) 14 (eJ G 25 O)) 15 (eJ G 5 D)) 16 (eJ G 80 W)) 17 (eB G 128 Bk)) 49 (eO 9 (mO ad x tt)))) rfl rfl rfl ?_
  refine v_aload_n C eX12_begin_0 rfl 0 rfl ?_
  refine v_iload_n C eX12_begin_1 rfl 1 rfl ?_
  refine n_put (fs' := mO ad (upd x 18 (nI 1)) tt) C I fX12_177_X12p eX12_begin_2 (hN 49 (by decide)) rfl rfl rfl (Nat.le_of_ble_eq_true rfl) rfl ?_
  refine v_aload_n C eX12_begin_5 rfl 0 rfl ?_
  refine v_iconst (v := nI 0) C eX12_begin_6 (by decide) ?_
  refine n_put (fs' := mO ad (upd (upd x 18 (nI 1)) 20 (nI 0)) tt) C I fX12_180_X12p eX12_begin_7 (hN 49 (by decide)) rfl rfl rfl (Nat.le_of_ble_eq_true rfl) rfl ?_
  refine v_aload_n C eX12_begin_10 rfl 0 rfl ?_
  refine v_lconst (v := (0 : Int64)) C eX12_begin_11 (by decide) ?_
  refine n_put (fs' := mO ad (upd (upd x 18 (nI 1)) 20 (nI 0)) ((0 : Int64))) C I fX12_183_X12p eX12_begin_12 (hN 49 (by decide)) rfl rfl rfl (Nat.le_of_ble_eq_true rfl) rfl ?_
  refine v_iconst (v := (0 : Int32)) C eX12_begin_15 (by decide) ?_
  refine v_istore_n (lv' := [(0, .ref (ad 49)), (1, .int (nI 1)), (2, .int ((0 : Int32)))]) C eX12_begin_16 rfl (by decide) [1, 2, 0] rfl ?_
  refine v_eq (w' := nW ad N (va_up (va_up (va_up (va_up (va_up (va_up σ 13 (eJ G 25 S)) 14 (eJ G 25 O)) 15 (eJ G 5 D)) 16 (eJ G 80 W)) 17 (eB G 128 Bk)) 49 (eO 9 (mO ad (upd (upd x 18 (nI 1)) 20 (nI 0)) ((0 : Int64)))))) (congrArg (nW ad N) (n_extL [13, 14, 15, 16, 17, 49] ⟨rfl, rfl, rfl, rfl, rfl, rfl, trivial⟩ (fun q h => by simp only [List.mem_cons, List.not_mem_nil, or_false, not_or] at h; simp [va_up, h]))) rfl rfl ?_
  refine v_forV (fun i => va_up (va_up (va_up (va_up (va_up (va_up σ 13 (eJ G 25 (zS i S))) 14 (eJ G 25 O)) 15 (eJ G 5 D)) 16 (eJ G 80 W)) 17 (eB G 128 Bk)) 49 (eO 9 (mO ad (upd (upd x 18 (nI 1)) 20 (nI 0)) ((0 : Int64))))) (fun i => [(0, .ref (ad 49)), (1, .int (nI 1)), (2, .int (nI i))]) 25 ?_ ?_
  · refine v_iload_n C eX12_begin_17 rfl 2 rfl ?_
    refine v_bipush (v := (25 : Int32)) C eX12_begin_18 (by decide) ?_
    refine v_icmp_ge (tgt := 36) C eX12_begin_20 (by decide) (fun _ => ?_) (fun h => absurd (ix_le (a := 25) (b := 25) (rfl : (25 : Int32) = nI 25) (rfl : nI 25 = nI 25) (by omega) (by omega) (by omega)) h)
    refine v_aload_n C eX12_begin_36 rfl 0 rfl ?_
    refine v_iload_n C eX12_begin_37 rfl 1 rfl ?_
    refine v_bipush (v := (11 : Int32)) C eX12_begin_38 (by decide) ?_
    refine v_icmp_ne (tgt := 49) C eX12_begin_40 (by decide) (fun _ => ?_) (fun h => absurd h (ix_ne (a := 1) (b := 11) (rfl : nI 1 = nI 1) (rfl : (11 : Int32) = nI 11) (by omega) (by omega) (by omega)))
    refine v_iload_n C eX12_begin_49 rfl 1 rfl ?_
    refine v_bipush (v := (12 : Int32)) C eX12_begin_50 (by decide) ?_
    refine v_icmp_ne (tgt := 61) C eX12_begin_52 (by decide) (fun _ => ?_) (fun h => absurd h (ix_ne (a := 1) (b := 12) (rfl : nI 1 = nI 1) (rfl : (12 : Int32) = nI 12) (by omega) (by omega) (by omega)))
    refine v_iload_n C eX12_begin_61 rfl 1 rfl ?_
    refine v_bipush (v := (6 : Int32)) C eX12_begin_62 (by decide) ?_
    refine v_icmp_le (tgt := 80) C eX12_begin_64 (by decide) (fun _ => ?_) (fun h => absurd (ix_le (a := 1) (b := 6) (rfl : nI 1 = nI 1) (rfl : (6 : Int32) = nI 6) (by omega) (by omega) (by omega)) h)
    refine v_iload_n C eX12_begin_80 rfl 1 rfl ?_
    refine n_callS (av := [.int (nI 1)]) (rest := [.ref (ad 49)]) C mX12_190 (c_blockOf1) rfl (by decide) (by decide) ⟨by decide, by decide⟩ rfl rfl (Nat.le_of_ble_eq_true rfl) eX12_begin_81 (fun r σ' hp => ?_)
    obtain ⟨rfl, rfl⟩ := hp
    refine n_put (fs' := mO ad (upd (upd (upd x 18 (nI 1)) 19 (nI (rateK 1))) 20 (nI 0)) ((0 : Int64))) C I fX12_193_X12p eX12_begin_84 (hN 49 (by decide)) rfl rfl rfl (Nat.le_of_ble_eq_true rfl) rfl ?_
    refine v_iconst (v := (0 : Int32)) C eX12_begin_87 (by decide) ?_
    refine v_istore_n (lv' := [(0, .ref (ad 49)), (1, .int (nI 1)), (2, .int ((0 : Int32)))]) C eX12_begin_88 rfl (by decide) [1, 2, 0] rfl ?_
    refine v_eq (w' := nW ad N (va_up (va_up (va_up (va_up (va_up (va_up σ 13 (eJ G 25 (zS 25 S))) 14 (eJ G 25 O)) 15 (eJ G 5 D)) 16 (eJ G 80 W)) 17 (eB G 128 Bk)) 49 (eO 9 (mO ad (upd (upd (upd x 18 (nI 1)) 19 (nI (rateK 1))) 20 (nI 0)) ((0 : Int64)))))) (congrArg (nW ad N) (n_extL [13, 14, 15, 16, 17, 49] ⟨rfl, rfl, rfl, rfl, rfl, rfl, trivial⟩ (fun q h => by simp only [List.mem_cons, List.not_mem_nil, or_false, not_or] at h; simp [va_up, h]))) rfl rfl ?_
    refine v_forV (fun j => va_up (va_up (va_up (va_up (va_up (va_up σ 13 (eJ G 25 (bgS 1 Rt j (zS 25 S)))) 14 (eJ G 25 O)) 15 (eJ G 5 D)) 16 (eJ G 80 W)) 17 (eB G 128 Bk)) 49 (eO 9 (mO ad (upd (upd (upd x 18 (nI 1)) 19 (nI (rateK 1))) 20 (nI 0)) ((0 : Int64))))) (fun j => [(0, .ref (ad 49)), (1, .int (nI 1)), (2, .int (nI j))]) 8 ?_ ?_
    · refine v_iload_n C eX12_begin_89 rfl 2 rfl ?_
      refine v_bipush (v := (8 : Int32)) C eX12_begin_90 (by decide) ?_
      refine v_icmp_ge (tgt := 203) C eX12_begin_92 (by decide) (fun _ => ?_) (fun h => absurd (ix_le (a := 8) (b := 8) (rfl : (8 : Int32) = nI 8) (rfl : nI 8 = nI 8) (by omega) (by omega) (by omega)) h)
      exact n_vret C rfl eX12_begin_203 ⟨rfl, rfl⟩
    · intro j hj ihj
      refine v_iload_n C eX12_begin_89 rfl 2 rfl ?_
      refine v_bipush (v := (8 : Int32)) C eX12_begin_90 (by decide) ?_
      refine v_icmp_ge (tgt := 203) C eX12_begin_92 (by decide) (fun h => absurd h (ix_nle (a := 8) (b := j) (rfl : (8 : Int32) = nI 8) (rfl : nI j = nI j) (by omega) (by omega) (by omega))) (fun _ => ?_)
      refine v_iload_n C eX12_begin_95 rfl 1 rfl ?_
      refine v_bipush (v := (7 : Int32)) C eX12_begin_96 (by decide) ?_
      refine v_icmp_ge (tgt := 203) C eX12_begin_98 (by decide) (fun h => absurd h (ix_nle (a := 7) (b := 1) (rfl : (7 : Int32) = nI 7) (rfl : nI 1 = nI 1) (by omega) (by omega) (by omega))) (fun _ => ?_)
      refine v_aload_n C eX12_begin_101 rfl 0 rfl ?_
      refine n_get C I fX12_48_X12 eX12_begin_102 (hN 49 (by decide)) rfl rfl ?_
      refine v_iload_n C eX12_begin_105 rfl 2 rfl ?_
      refine v_iload_n C eX12_begin_106 rfl 1 rfl ?_
      refine v_iconst (v := (1 : Int32)) C eX12_begin_107 (by decide) ?_
      refine v_icmp_ne (tgt := 123) C eX12_begin_108 (by decide) (fun h => absurd (ix_eq (a := 1) (b := 1) (rfl : nI 1 = nI 1) (rfl : (1 : Int32) = nI 1) (by omega) (by omega) (by omega)) h) (fun _ => ?_)
      refine v_aload_n C eX12_begin_111 rfl 0 rfl ?_
      refine n_get C I fX12_23_X12 eX12_begin_112 (hN 49 (by decide)) rfl rfl ?_
      refine v_iload_n C eX12_begin_115 rfl 2 rfl ?_
      refine n_lald C I eX12_begin_116 (hN 5 (by decide)) h5 j (rfl : nI j = nI j) (by omega) (by decide) ?_
      refine v_bipush (v := (32 : Int32)) C eX12_begin_117 (by decide) ?_
      refine v_lushr C eX12_begin_119 ?_
      refine v_goto (tgt := 196) C eX12_begin_120 (by decide) ?_
      refine n_last C I eX12_begin_196 (hN 13 (by decide)) rfl j (rfl : nI j = nI j) (by omega) (by decide) ?_
      refine v_iinc (lv' := [(0, .ref (ad 49)), (1, .int (nI 1)), (2, .int (nI (j + 1)))]) C eX12_begin_197 2 rfl (ix_inc _) (by decide) [1, 2, 0] rfl ?_
      refine v_goto (tgt := 89) C eX12_begin_200 (by decide) ?_
      refine v_eq (w' := nW ad N (va_up (va_up (va_up (va_up (va_up (va_up σ 13 (eJ G 25 (vp_updL (bgS 1 Rt j (zS 25 S)) j (((Rt j).toUInt64 >>> (((32 : Int32)).toInt64.toUInt64 &&& Int64.toUInt64 63)).toInt64)))) 14 (eJ G 25 O)) 15 (eJ G 5 D)) 16 (eJ G 80 W)) 17 (eB G 128 Bk)) 49 (eO 9 (mO ad (upd (upd (upd x 18 (nI 1)) 19 (nI (rateK 1))) 20 (nI 0)) ((0 : Int64)))))) (congrArg (nW ad N) (n_extL [13, 14, 15, 16, 17, 49] ⟨rfl, rfl, rfl, rfl, rfl, rfl, trivial⟩ (fun q h => by simp only [List.mem_cons, List.not_mem_nil, or_false, not_or] at h; simp [va_up, h]))) rfl rfl ?_
      exact ihj
  · intro i hi ih
    refine v_iload_n C eX12_begin_17 rfl 2 rfl ?_
    refine v_bipush (v := (25 : Int32)) C eX12_begin_18 (by decide) ?_
    refine v_icmp_ge (tgt := 36) C eX12_begin_20 (by decide) (fun h => absurd h (ix_nle (a := 25) (b := i) (rfl : (25 : Int32) = nI 25) (rfl : nI i = nI i) (by omega) (by omega) (by omega))) (fun _ => ?_)
    refine v_aload_n C eX12_begin_23 rfl 0 rfl ?_
    refine n_get C I fX12_48_X12 eX12_begin_24 (hN 49 (by decide)) rfl rfl ?_
    refine v_iload_n C eX12_begin_27 rfl 2 rfl ?_
    refine v_lconst (v := (0 : Int64)) C eX12_begin_28 (by decide) ?_
    refine n_last C I eX12_begin_29 (hN 13 (by decide)) rfl i (rfl : nI i = nI i) (by omega) (by decide) ?_
    refine v_iinc (lv' := [(0, .ref (ad 49)), (1, .int (nI 1)), (2, .int (nI (i + 1)))]) C eX12_begin_30 2 rfl (ix_inc _) (by decide) [1, 2, 0] rfl ?_
    refine v_goto (tgt := 17) C eX12_begin_33 (by decide) ?_
    refine v_eq (w' := nW ad N (va_up (va_up (va_up (va_up (va_up (va_up σ 13 (eJ G 25 (vp_updL (zS i S) i ((0 : Int64))))) 14 (eJ G 25 O)) 15 (eJ G 5 D)) 16 (eJ G 80 W)) 17 (eB G 128 Bk)) 49 (eO 9 (mO ad (upd (upd x 18 (nI 1)) 20 (nI 0)) ((0 : Int64)))))) (congrArg (nW ad N) (n_extL [13, 14, 15, 16, 17, 49] ⟨rfl, rfl, rfl, rfl, rfl, rfl, trivial⟩ (fun q h => by simp only [List.mem_cons, List.not_mem_nil, or_false, not_or] at h; simp [va_up, h]))) rfl rfl ?_
    exact ih

set_option maxRecDepth 100000 in
set_option maxHeartbeats 4000000 in
theorem c_begin3 (I : nI1 ad N) (hN : ∀ k, k < 74 → k < N) {σ : nS} {x T : Nat → Int32} {Rc K : Nat → Int64} (h11 : σ 11 = eI G 25 T) (h12 : σ 12 = eJ G 24 Rc) (h6 : σ 6 = eJ G 80 K) {Rt : Nat → Int64} (h5 : σ 5 = eJ G 16 Rt) (S O D W : Nat → Int64) (Bk : Nat → Int32) (fl : Nat) (tt : Int64) : nOk G B l ad N yX12_begin cX12_begin 3 none 1 0 0 [.ref (ad 49), .int (nI 3)] (gσ G ad σ x (S, O, D, W, Bk, fl, tt)) (fun r σ' => r = none ∧ σ' = hσ G ad σ x 3 (hBeg 3 Rt (S, O, D, W, Bk, fl, tt))) := by
  refine vOk.of (by decide +kernel) (Nat.le_of_ble_eq_true rfl) ?_
  intro p e s m args below meth c C
  refine v_eq (lv' := [(0, .ref (ad 49)), (1, .int (nI 3))]) rfl rfl rfl ?_
  refine v_eq (w' := nW ad N (va_up (va_up (va_up (va_up (va_up (va_up σ 13 (eJ G 25 S)) 14 (eJ G 25 O)) 15 (eJ G 5 D)) 16 (eJ G 80 W)) 17 (eB G 128 Bk)) 49 (eO 9 (mO ad x tt)))) rfl rfl rfl ?_
  refine v_aload_n C eX12_begin_0 rfl 0 rfl ?_
  refine v_iload_n C eX12_begin_1 rfl 1 rfl ?_
  refine n_put (fs' := mO ad (upd x 18 (nI 3)) tt) C I fX12_177_X12p eX12_begin_2 (hN 49 (by decide)) rfl rfl rfl (Nat.le_of_ble_eq_true rfl) rfl ?_
  refine v_aload_n C eX12_begin_5 rfl 0 rfl ?_
  refine v_iconst (v := nI 0) C eX12_begin_6 (by decide) ?_
  refine n_put (fs' := mO ad (upd (upd x 18 (nI 3)) 20 (nI 0)) tt) C I fX12_180_X12p eX12_begin_7 (hN 49 (by decide)) rfl rfl rfl (Nat.le_of_ble_eq_true rfl) rfl ?_
  refine v_aload_n C eX12_begin_10 rfl 0 rfl ?_
  refine v_lconst (v := (0 : Int64)) C eX12_begin_11 (by decide) ?_
  refine n_put (fs' := mO ad (upd (upd x 18 (nI 3)) 20 (nI 0)) ((0 : Int64))) C I fX12_183_X12p eX12_begin_12 (hN 49 (by decide)) rfl rfl rfl (Nat.le_of_ble_eq_true rfl) rfl ?_
  refine v_iconst (v := (0 : Int32)) C eX12_begin_15 (by decide) ?_
  refine v_istore_n (lv' := [(0, .ref (ad 49)), (1, .int (nI 3)), (2, .int ((0 : Int32)))]) C eX12_begin_16 rfl (by decide) [1, 2, 0] rfl ?_
  refine v_eq (w' := nW ad N (va_up (va_up (va_up (va_up (va_up (va_up σ 13 (eJ G 25 S)) 14 (eJ G 25 O)) 15 (eJ G 5 D)) 16 (eJ G 80 W)) 17 (eB G 128 Bk)) 49 (eO 9 (mO ad (upd (upd x 18 (nI 3)) 20 (nI 0)) ((0 : Int64)))))) (congrArg (nW ad N) (n_extL [13, 14, 15, 16, 17, 49] ⟨rfl, rfl, rfl, rfl, rfl, rfl, trivial⟩ (fun q h => by simp only [List.mem_cons, List.not_mem_nil, or_false, not_or] at h; simp [va_up, h]))) rfl rfl ?_
  refine v_forV (fun i => va_up (va_up (va_up (va_up (va_up (va_up σ 13 (eJ G 25 (zS i S))) 14 (eJ G 25 O)) 15 (eJ G 5 D)) 16 (eJ G 80 W)) 17 (eB G 128 Bk)) 49 (eO 9 (mO ad (upd (upd x 18 (nI 3)) 20 (nI 0)) ((0 : Int64))))) (fun i => [(0, .ref (ad 49)), (1, .int (nI 3)), (2, .int (nI i))]) 25 ?_ ?_
  · refine v_iload_n C eX12_begin_17 rfl 2 rfl ?_
    refine v_bipush (v := (25 : Int32)) C eX12_begin_18 (by decide) ?_
    refine v_icmp_ge (tgt := 36) C eX12_begin_20 (by decide) (fun _ => ?_) (fun h => absurd (ix_le (a := 25) (b := 25) (rfl : (25 : Int32) = nI 25) (rfl : nI 25 = nI 25) (by omega) (by omega) (by omega)) h)
    refine v_aload_n C eX12_begin_36 rfl 0 rfl ?_
    refine v_iload_n C eX12_begin_37 rfl 1 rfl ?_
    refine v_bipush (v := (11 : Int32)) C eX12_begin_38 (by decide) ?_
    refine v_icmp_ne (tgt := 49) C eX12_begin_40 (by decide) (fun _ => ?_) (fun h => absurd h (ix_ne (a := 3) (b := 11) (rfl : nI 3 = nI 3) (rfl : (11 : Int32) = nI 11) (by omega) (by omega) (by omega)))
    refine v_iload_n C eX12_begin_49 rfl 1 rfl ?_
    refine v_bipush (v := (12 : Int32)) C eX12_begin_50 (by decide) ?_
    refine v_icmp_ne (tgt := 61) C eX12_begin_52 (by decide) (fun _ => ?_) (fun h => absurd h (ix_ne (a := 3) (b := 12) (rfl : nI 3 = nI 3) (rfl : (12 : Int32) = nI 12) (by omega) (by omega) (by omega)))
    refine v_iload_n C eX12_begin_61 rfl 1 rfl ?_
    refine v_bipush (v := (6 : Int32)) C eX12_begin_62 (by decide) ?_
    refine v_icmp_le (tgt := 80) C eX12_begin_64 (by decide) (fun _ => ?_) (fun h => absurd (ix_le (a := 3) (b := 6) (rfl : nI 3 = nI 3) (rfl : (6 : Int32) = nI 6) (by omega) (by omega) (by omega)) h)
    refine v_iload_n C eX12_begin_80 rfl 1 rfl ?_
    refine n_callS (av := [.int (nI 3)]) (rest := [.ref (ad 49)]) C mX12_190 (c_blockOf3) rfl (by decide) (by decide) ⟨by decide, by decide⟩ rfl rfl (Nat.le_of_ble_eq_true rfl) eX12_begin_81 (fun r σ' hp => ?_)
    obtain ⟨rfl, rfl⟩ := hp
    refine n_put (fs' := mO ad (upd (upd (upd x 18 (nI 3)) 19 (nI (rateK 3))) 20 (nI 0)) ((0 : Int64))) C I fX12_193_X12p eX12_begin_84 (hN 49 (by decide)) rfl rfl rfl (Nat.le_of_ble_eq_true rfl) rfl ?_
    refine v_iconst (v := (0 : Int32)) C eX12_begin_87 (by decide) ?_
    refine v_istore_n (lv' := [(0, .ref (ad 49)), (1, .int (nI 3)), (2, .int ((0 : Int32)))]) C eX12_begin_88 rfl (by decide) [1, 2, 0] rfl ?_
    refine v_eq (w' := nW ad N (va_up (va_up (va_up (va_up (va_up (va_up σ 13 (eJ G 25 (zS 25 S))) 14 (eJ G 25 O)) 15 (eJ G 5 D)) 16 (eJ G 80 W)) 17 (eB G 128 Bk)) 49 (eO 9 (mO ad (upd (upd (upd x 18 (nI 3)) 19 (nI (rateK 3))) 20 (nI 0)) ((0 : Int64)))))) (congrArg (nW ad N) (n_extL [13, 14, 15, 16, 17, 49] ⟨rfl, rfl, rfl, rfl, rfl, rfl, trivial⟩ (fun q h => by simp only [List.mem_cons, List.not_mem_nil, or_false, not_or] at h; simp [va_up, h]))) rfl rfl ?_
    refine v_forV (fun j => va_up (va_up (va_up (va_up (va_up (va_up σ 13 (eJ G 25 (bgS 3 Rt j (zS 25 S)))) 14 (eJ G 25 O)) 15 (eJ G 5 D)) 16 (eJ G 80 W)) 17 (eB G 128 Bk)) 49 (eO 9 (mO ad (upd (upd (upd x 18 (nI 3)) 19 (nI (rateK 3))) 20 (nI 0)) ((0 : Int64))))) (fun j => [(0, .ref (ad 49)), (1, .int (nI 3)), (2, .int (nI j))]) 8 ?_ ?_
    · refine v_iload_n C eX12_begin_89 rfl 2 rfl ?_
      refine v_bipush (v := (8 : Int32)) C eX12_begin_90 (by decide) ?_
      refine v_icmp_ge (tgt := 203) C eX12_begin_92 (by decide) (fun _ => ?_) (fun h => absurd (ix_le (a := 8) (b := 8) (rfl : (8 : Int32) = nI 8) (rfl : nI 8 = nI 8) (by omega) (by omega) (by omega)) h)
      exact n_vret C rfl eX12_begin_203 ⟨rfl, rfl⟩
    · intro j hj ihj
      refine v_iload_n C eX12_begin_89 rfl 2 rfl ?_
      refine v_bipush (v := (8 : Int32)) C eX12_begin_90 (by decide) ?_
      refine v_icmp_ge (tgt := 203) C eX12_begin_92 (by decide) (fun h => absurd h (ix_nle (a := 8) (b := j) (rfl : (8 : Int32) = nI 8) (rfl : nI j = nI j) (by omega) (by omega) (by omega))) (fun _ => ?_)
      refine v_iload_n C eX12_begin_95 rfl 1 rfl ?_
      refine v_bipush (v := (7 : Int32)) C eX12_begin_96 (by decide) ?_
      refine v_icmp_ge (tgt := 203) C eX12_begin_98 (by decide) (fun h => absurd h (ix_nle (a := 7) (b := 3) (rfl : (7 : Int32) = nI 7) (rfl : nI 3 = nI 3) (by omega) (by omega) (by omega))) (fun _ => ?_)
      refine v_aload_n C eX12_begin_101 rfl 0 rfl ?_
      refine n_get C I fX12_48_X12 eX12_begin_102 (hN 49 (by decide)) rfl rfl ?_
      refine v_iload_n C eX12_begin_105 rfl 2 rfl ?_
      refine v_iload_n C eX12_begin_106 rfl 1 rfl ?_
      refine v_iconst (v := (1 : Int32)) C eX12_begin_107 (by decide) ?_
      refine v_icmp_ne (tgt := 123) C eX12_begin_108 (by decide) (fun _ => ?_) (fun h => absurd h (ix_ne (a := 3) (b := 1) (rfl : nI 3 = nI 3) (rfl : (1 : Int32) = nI 1) (by omega) (by omega) (by omega)))
      refine v_iload_n C eX12_begin_123 rfl 1 rfl ?_
      refine v_iconst (v := (4 : Int32)) C eX12_begin_124 (by decide) ?_
      refine v_icmp_ne (tgt := 144) C eX12_begin_125 (by decide) (fun _ => ?_) (fun h => absurd h (ix_ne (a := 3) (b := 4) (rfl : nI 3 = nI 3) (rfl : (4 : Int32) = nI 4) (by omega) (by omega) (by omega)))
      refine v_iload_n C eX12_begin_144 rfl 1 rfl ?_
      refine v_iconst (v := (2 : Int32)) C eX12_begin_145 (by decide) ?_
      refine v_icmp_ne (tgt := 161) C eX12_begin_146 (by decide) (fun _ => ?_) (fun h => absurd h (ix_ne (a := 3) (b := 2) (rfl : nI 3 = nI 3) (rfl : (2 : Int32) = nI 2) (by omega) (by omega) (by omega)))
      refine v_iload_n C eX12_begin_161 rfl 1 rfl ?_
      refine v_iconst (v := (5 : Int32)) C eX12_begin_162 (by decide) ?_
      refine v_icmp_ne (tgt := 175) C eX12_begin_163 (by decide) (fun _ => ?_) (fun h => absurd h (ix_ne (a := 3) (b := 5) (rfl : nI 3 = nI 3) (rfl : (5 : Int32) = nI 5) (by omega) (by omega) (by omega)))
      refine v_iload_n C eX12_begin_175 rfl 1 rfl ?_
      refine v_bipush (v := (6 : Int32)) C eX12_begin_176 (by decide) ?_
      refine v_icmp_ne (tgt := 190) C eX12_begin_178 (by decide) (fun _ => ?_) (fun h => absurd h (ix_ne (a := 3) (b := 6) (rfl : nI 3 = nI 3) (rfl : (6 : Int32) = nI 6) (by omega) (by omega) (by omega)))
      refine v_aload_n C eX12_begin_190 rfl 0 rfl ?_
      refine n_get C I fX12_23_X12 eX12_begin_191 (hN 49 (by decide)) rfl rfl ?_
      refine v_iload_n C eX12_begin_194 rfl 2 rfl ?_
      refine n_lald C I eX12_begin_195 (hN 5 (by decide)) h5 j (rfl : nI j = nI j) (by omega) (by decide) ?_
      refine n_last C I eX12_begin_196 (hN 13 (by decide)) rfl j (rfl : nI j = nI j) (by omega) (by decide) ?_
      refine v_iinc (lv' := [(0, .ref (ad 49)), (1, .int (nI 3)), (2, .int (nI (j + 1)))]) C eX12_begin_197 2 rfl (ix_inc _) (by decide) [1, 2, 0] rfl ?_
      refine v_goto (tgt := 89) C eX12_begin_200 (by decide) ?_
      refine v_eq (w' := nW ad N (va_up (va_up (va_up (va_up (va_up (va_up σ 13 (eJ G 25 (vp_updL (bgS 3 Rt j (zS 25 S)) j (Rt j)))) 14 (eJ G 25 O)) 15 (eJ G 5 D)) 16 (eJ G 80 W)) 17 (eB G 128 Bk)) 49 (eO 9 (mO ad (upd (upd (upd x 18 (nI 3)) 19 (nI (rateK 3))) 20 (nI 0)) ((0 : Int64)))))) (congrArg (nW ad N) (n_extL [13, 14, 15, 16, 17, 49] ⟨rfl, rfl, rfl, rfl, rfl, rfl, trivial⟩ (fun q h => by simp only [List.mem_cons, List.not_mem_nil, or_false, not_or] at h; simp [va_up, h]))) rfl rfl ?_
      exact ihj
  · intro i hi ih
    refine v_iload_n C eX12_begin_17 rfl 2 rfl ?_
    refine v_bipush (v := (25 : Int32)) C eX12_begin_18 (by decide) ?_
    refine v_icmp_ge (tgt := 36) C eX12_begin_20 (by decide) (fun h => absurd h (ix_nle (a := 25) (b := i) (rfl : (25 : Int32) = nI 25) (rfl : nI i = nI i) (by omega) (by omega) (by omega))) (fun _ => ?_)
    refine v_aload_n C eX12_begin_23 rfl 0 rfl ?_
    refine n_get C I fX12_48_X12 eX12_begin_24 (hN 49 (by decide)) rfl rfl ?_
    refine v_iload_n C eX12_begin_27 rfl 2 rfl ?_
    refine v_lconst (v := (0 : Int64)) C eX12_begin_28 (by decide) ?_
    refine n_last C I eX12_begin_29 (hN 13 (by decide)) rfl i (rfl : nI i = nI i) (by omega) (by decide) ?_
    refine v_iinc (lv' := [(0, .ref (ad 49)), (1, .int (nI 3)), (2, .int (nI (i + 1)))]) C eX12_begin_30 2 rfl (ix_inc _) (by decide) [1, 2, 0] rfl ?_
    refine v_goto (tgt := 17) C eX12_begin_33 (by decide) ?_
    refine v_eq (w' := nW ad N (va_up (va_up (va_up (va_up (va_up (va_up σ 13 (eJ G 25 (vp_updL (zS i S) i ((0 : Int64))))) 14 (eJ G 25 O)) 15 (eJ G 5 D)) 16 (eJ G 80 W)) 17 (eB G 128 Bk)) 49 (eO 9 (mO ad (upd (upd x 18 (nI 3)) 20 (nI 0)) ((0 : Int64)))))) (congrArg (nW ad N) (n_extL [13, 14, 15, 16, 17, 49] ⟨rfl, rfl, rfl, rfl, rfl, rfl, trivial⟩ (fun q h => by simp only [List.mem_cons, List.not_mem_nil, or_false, not_or] at h; simp [va_up, h]))) rfl rfl ?_
    exact ih

set_option maxRecDepth 100000 in
set_option maxHeartbeats 4000000 in
theorem c_begin12 (I : nI1 ad N) (hN : ∀ k, k < 74 → k < N) {σ : nS} {x T : Nat → Int32} {Rc K : Nat → Int64} (h11 : σ 11 = eI G 25 T) (h12 : σ 12 = eJ G 24 Rc) (h6 : σ 6 = eJ G 80 K) {Rt : Nat → Int64} (h5 : σ 5 = eJ G 16 Rt) (S O D W : Nat → Int64) (Bk : Nat → Int32) (fl : Nat) (tt : Int64) : nOk G B l ad N yX12_begin cX12_begin 3 none 1 0 0 [.ref (ad 49), .int (nI 12)] (gσ G ad σ x (S, O, D, W, Bk, fl, tt)) (fun r σ' => r = none ∧ σ' = hσ G ad σ x 12 (hBeg 12 Rt (S, O, D, W, Bk, fl, tt))) := by
  refine vOk.of (by decide +kernel) (Nat.le_of_ble_eq_true rfl) ?_
  intro p e s m args below meth c C
  refine v_eq (lv' := [(0, .ref (ad 49)), (1, .int (nI 12))]) rfl rfl rfl ?_
  refine v_eq (w' := nW ad N (va_up (va_up (va_up (va_up (va_up (va_up σ 13 (eJ G 25 S)) 14 (eJ G 25 O)) 15 (eJ G 5 D)) 16 (eJ G 80 W)) 17 (eB G 128 Bk)) 49 (eO 9 (mO ad x tt)))) rfl rfl rfl ?_
  refine v_aload_n C eX12_begin_0 rfl 0 rfl ?_
  refine v_iload_n C eX12_begin_1 rfl 1 rfl ?_
  refine n_put (fs' := mO ad (upd x 18 (nI 12)) tt) C I fX12_177_X12p eX12_begin_2 (hN 49 (by decide)) rfl rfl rfl (Nat.le_of_ble_eq_true rfl) rfl ?_
  refine v_aload_n C eX12_begin_5 rfl 0 rfl ?_
  refine v_iconst (v := nI 0) C eX12_begin_6 (by decide) ?_
  refine n_put (fs' := mO ad (upd (upd x 18 (nI 12)) 20 (nI 0)) tt) C I fX12_180_X12p eX12_begin_7 (hN 49 (by decide)) rfl rfl rfl (Nat.le_of_ble_eq_true rfl) rfl ?_
  refine v_aload_n C eX12_begin_10 rfl 0 rfl ?_
  refine v_lconst (v := (0 : Int64)) C eX12_begin_11 (by decide) ?_
  refine n_put (fs' := mO ad (upd (upd x 18 (nI 12)) 20 (nI 0)) ((0 : Int64))) C I fX12_183_X12p eX12_begin_12 (hN 49 (by decide)) rfl rfl rfl (Nat.le_of_ble_eq_true rfl) rfl ?_
  refine v_iconst (v := (0 : Int32)) C eX12_begin_15 (by decide) ?_
  refine v_istore_n (lv' := [(0, .ref (ad 49)), (1, .int (nI 12)), (2, .int ((0 : Int32)))]) C eX12_begin_16 rfl (by decide) [1, 2, 0] rfl ?_
  refine v_eq (w' := nW ad N (va_up (va_up (va_up (va_up (va_up (va_up σ 13 (eJ G 25 S)) 14 (eJ G 25 O)) 15 (eJ G 5 D)) 16 (eJ G 80 W)) 17 (eB G 128 Bk)) 49 (eO 9 (mO ad (upd (upd x 18 (nI 12)) 20 (nI 0)) ((0 : Int64)))))) (congrArg (nW ad N) (n_extL [13, 14, 15, 16, 17, 49] ⟨rfl, rfl, rfl, rfl, rfl, rfl, trivial⟩ (fun q h => by simp only [List.mem_cons, List.not_mem_nil, or_false, not_or] at h; simp [va_up, h]))) rfl rfl ?_
  refine v_forV (fun i => va_up (va_up (va_up (va_up (va_up (va_up σ 13 (eJ G 25 (zS i S))) 14 (eJ G 25 O)) 15 (eJ G 5 D)) 16 (eJ G 80 W)) 17 (eB G 128 Bk)) 49 (eO 9 (mO ad (upd (upd x 18 (nI 12)) 20 (nI 0)) ((0 : Int64))))) (fun i => [(0, .ref (ad 49)), (1, .int (nI 12)), (2, .int (nI i))]) 25 ?_ ?_
  · refine v_iload_n C eX12_begin_17 rfl 2 rfl ?_
    refine v_bipush (v := (25 : Int32)) C eX12_begin_18 (by decide) ?_
    refine v_icmp_ge (tgt := 36) C eX12_begin_20 (by decide) (fun _ => ?_) (fun h => absurd (ix_le (a := 25) (b := 25) (rfl : (25 : Int32) = nI 25) (rfl : nI 25 = nI 25) (by omega) (by omega) (by omega)) h)
    refine v_aload_n C eX12_begin_36 rfl 0 rfl ?_
    refine v_iload_n C eX12_begin_37 rfl 1 rfl ?_
    refine v_bipush (v := (11 : Int32)) C eX12_begin_38 (by decide) ?_
    refine v_icmp_ne (tgt := 49) C eX12_begin_40 (by decide) (fun _ => ?_) (fun h => absurd h (ix_ne (a := 12) (b := 11) (rfl : nI 12 = nI 12) (rfl : (11 : Int32) = nI 11) (by omega) (by omega) (by omega)))
    refine v_iload_n C eX12_begin_49 rfl 1 rfl ?_
    refine v_bipush (v := (12 : Int32)) C eX12_begin_50 (by decide) ?_
    refine v_icmp_ne (tgt := 61) C eX12_begin_52 (by decide) (fun h => absurd (ix_eq (a := 12) (b := 12) (rfl : nI 12 = nI 12) (rfl : (12 : Int32) = nI 12) (by omega) (by omega) (by omega)) h) (fun _ => ?_)
    refine v_sipush (v := nI (rateK 12)) C eX12_begin_55 (by decide) ?_
    refine v_goto (tgt := 84) C eX12_begin_58 (by decide) ?_
    refine n_put (fs' := mO ad (upd (upd (upd x 18 (nI 12)) 19 (nI (rateK 12))) 20 (nI 0)) ((0 : Int64))) C I fX12_193_X12p eX12_begin_84 (hN 49 (by decide)) rfl rfl rfl (Nat.le_of_ble_eq_true rfl) rfl ?_
    refine v_iconst (v := (0 : Int32)) C eX12_begin_87 (by decide) ?_
    refine v_istore_n (lv' := [(0, .ref (ad 49)), (1, .int (nI 12)), (2, .int ((0 : Int32)))]) C eX12_begin_88 rfl (by decide) [1, 2, 0] rfl ?_
    refine v_iload_n C eX12_begin_89 rfl 2 rfl ?_
    refine v_bipush (v := (8 : Int32)) C eX12_begin_90 (by decide) ?_
    refine v_icmp_ge (tgt := 203) C eX12_begin_92 (by decide) (fun h => absurd h (ix_nle (a := 8) (b := 0) (rfl : (8 : Int32) = nI 8) (rfl : (0 : Int32) = nI 0) (by omega) (by omega) (by omega))) (fun _ => ?_)
    refine v_iload_n C eX12_begin_95 rfl 1 rfl ?_
    refine v_bipush (v := (7 : Int32)) C eX12_begin_96 (by decide) ?_
    refine v_icmp_ge (tgt := 203) C eX12_begin_98 (by decide) (fun _ => ?_) (fun h => absurd (ix_le (a := 7) (b := 12) (rfl : (7 : Int32) = nI 7) (rfl : nI 12 = nI 12) (by omega) (by omega) (by omega)) h)
    refine v_eq (w' := nW ad N (va_up (va_up (va_up (va_up (va_up (va_up σ 13 (eJ G 25 (zS 25 S))) 14 (eJ G 25 O)) 15 (eJ G 5 D)) 16 (eJ G 80 W)) 17 (eB G 128 Bk)) 49 (eO 9 (mO ad (upd (upd (upd x 18 (nI 12)) 19 (nI (rateK 12))) 20 (nI 0)) ((0 : Int64)))))) (congrArg (nW ad N) (n_extL [13, 14, 15, 16, 17, 49] ⟨rfl, rfl, rfl, rfl, rfl, rfl, trivial⟩ (fun q h => by simp only [List.mem_cons, List.not_mem_nil, or_false, not_or] at h; simp [va_up, h]))) rfl rfl ?_
    exact n_vret C rfl eX12_begin_203 ⟨rfl, rfl⟩
  · intro i hi ih
    refine v_iload_n C eX12_begin_17 rfl 2 rfl ?_
    refine v_bipush (v := (25 : Int32)) C eX12_begin_18 (by decide) ?_
    refine v_icmp_ge (tgt := 36) C eX12_begin_20 (by decide) (fun h => absurd h (ix_nle (a := 25) (b := i) (rfl : (25 : Int32) = nI 25) (rfl : nI i = nI i) (by omega) (by omega) (by omega))) (fun _ => ?_)
    refine v_aload_n C eX12_begin_23 rfl 0 rfl ?_
    refine n_get C I fX12_48_X12 eX12_begin_24 (hN 49 (by decide)) rfl rfl ?_
    refine v_iload_n C eX12_begin_27 rfl 2 rfl ?_
    refine v_lconst (v := (0 : Int64)) C eX12_begin_28 (by decide) ?_
    refine n_last C I eX12_begin_29 (hN 13 (by decide)) rfl i (rfl : nI i = nI i) (by omega) (by decide) ?_
    refine v_iinc (lv' := [(0, .ref (ad 49)), (1, .int (nI 12)), (2, .int (nI (i + 1)))]) C eX12_begin_30 2 rfl (ix_inc _) (by decide) [1, 2, 0] rfl ?_
    refine v_goto (tgt := 17) C eX12_begin_33 (by decide) ?_
    refine v_eq (w' := nW ad N (va_up (va_up (va_up (va_up (va_up (va_up σ 13 (eJ G 25 (vp_updL (zS i S) i ((0 : Int64))))) 14 (eJ G 25 O)) 15 (eJ G 5 D)) 16 (eJ G 80 W)) 17 (eB G 128 Bk)) 49 (eO 9 (mO ad (upd (upd x 18 (nI 12)) 20 (nI 0)) ((0 : Int64)))))) (congrArg (nW ad N) (n_extL [13, 14, 15, 16, 17, 49] ⟨rfl, rfl, rfl, rfl, rfl, rfl, trivial⟩ (fun q h => by simp only [List.mem_cons, List.not_mem_nil, or_false, not_or] at h; simp [va_up, h]))) rfl rfl ?_
    exact ih

end M5
