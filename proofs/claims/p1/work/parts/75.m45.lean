theorem eX12_constants_0 : vD cX12_constants 0 (.iconst 0) 1 1 := ⟨by decide +kernel, rfl⟩
theorem eX12_constants_1 : vD cX12_constants 1 (.istore_n 1) 1 2 := ⟨by decide +kernel, rfl⟩
theorem eX12_constants_2 : vD cX12_constants 2 (.iconst 2) 1 3 := ⟨by decide +kernel, rfl⟩
theorem eX12_constants_3 : vD cX12_constants 3 (.istore_n 2) 1 4 := ⟨by decide +kernel, rfl⟩
theorem eX12_constants_4 : vD cX12_constants 4 (.iload_n 1) 1 5 := ⟨by decide +kernel, rfl⟩
theorem eX12_constants_5 : vD cX12_constants 5 (.bipush 80) 2 7 := ⟨by decide +kernel, rfl⟩
theorem eX12_constants_7 : vD cX12_constants 7 (.if_icmp .ge 52) 3 10 := ⟨by decide +kernel, rfl⟩
theorem eX12_constants_10 : vD cX12_constants 10 (.iload_n 2) 1 11 := ⟨by decide +kernel, rfl⟩
theorem eX12_constants_11 : vD cX12_constants 11 (.invokestatic 150) 3 14 := ⟨by decide +kernel, rfl⟩
theorem eX12_constants_14 : vD cX12_constants 14 (.ifCond .ne 6) 3 17 := ⟨by decide +kernel, rfl⟩
theorem eX12_constants_17 : vD cX12_constants 17 (.goto 36) 3 20 := ⟨by decide +kernel, rfl⟩
theorem eX12_constants_20 : vD cX12_constants 20 (.iload_n 1) 1 21 := ⟨by decide +kernel, rfl⟩
theorem eX12_constants_21 : vD cX12_constants 21 (.bipush 16) 2 23 := ⟨by decide +kernel, rfl⟩
theorem eX12_constants_23 : vD cX12_constants 23 (.if_icmp .ge 15) 3 26 := ⟨by decide +kernel, rfl⟩
theorem eX12_constants_26 : vD cX12_constants 26 (.aload_n 0) 1 27 := ⟨by decide +kernel, rfl⟩
theorem eX12_constants_27 : vD cX12_constants 27 (.getfield 23) 3 30 := ⟨by decide +kernel, rfl⟩
theorem eX12_constants_30 : vD cX12_constants 30 (.iload_n 1) 1 31 := ⟨by decide +kernel, rfl⟩
theorem eX12_constants_31 : vD cX12_constants 31 (.aload_n 0) 1 32 := ⟨by decide +kernel, rfl⟩
theorem eX12_constants_32 : vD cX12_constants 32 (.iload_n 2) 1 33 := ⟨by decide +kernel, rfl⟩
theorem eX12_constants_33 : vD cX12_constants 33 (.iconst 2) 1 34 := ⟨by decide +kernel, rfl⟩
theorem eX12_constants_34 : vD cX12_constants 34 (.invokevirtual 154) 3 37 := ⟨by decide +kernel, rfl⟩
theorem eX12_constants_37 : vD cX12_constants 37 .lastore 1 38 := ⟨by decide +kernel, rfl⟩
theorem eX12_constants_38 : vD cX12_constants 38 (.aload_n 0) 1 39 := ⟨by decide +kernel, rfl⟩
theorem eX12_constants_39 : vD cX12_constants 39 (.getfield 27) 3 42 := ⟨by decide +kernel, rfl⟩
theorem eX12_constants_42 : vD cX12_constants 42 (.iload_n 1) 1 43 := ⟨by decide +kernel, rfl⟩
theorem eX12_constants_43 : vD cX12_constants 43 (.aload_n 0) 1 44 := ⟨by decide +kernel, rfl⟩
theorem eX12_constants_44 : vD cX12_constants 44 (.iload_n 2) 1 45 := ⟨by decide +kernel, rfl⟩
theorem eX12_constants_45 : vD cX12_constants 45 (.iconst 3) 1 46 := ⟨by decide +kernel, rfl⟩
theorem eX12_constants_46 : vD cX12_constants 46 (.invokevirtual 154) 3 49 := ⟨by decide +kernel, rfl⟩
theorem eX12_constants_49 : vD cX12_constants 49 .lastore 1 50 := ⟨by decide +kernel, rfl⟩
theorem eX12_constants_50 : vD cX12_constants 50 (.iinc 1 1) 3 53 := ⟨by decide +kernel, rfl⟩
theorem eX12_constants_53 : vD cX12_constants 53 (.iinc 2 1) 3 56 := ⟨by decide +kernel, rfl⟩
theorem eX12_constants_56 : vD cX12_constants 56 (.goto (-52)) 3 59 := ⟨by decide +kernel, rfl⟩
theorem eX12_constants_59 : vD cX12_constants 59 (.iconst 1) 1 60 := ⟨by decide +kernel, rfl⟩
theorem eX12_constants_60 : vD cX12_constants 60 (.istore_n 2) 1 61 := ⟨by decide +kernel, rfl⟩
theorem eX12_constants_61 : vD cX12_constants 61 (.iconst 0) 1 62 := ⟨by decide +kernel, rfl⟩
theorem eX12_constants_62 : vD cX12_constants 62 (.istore_n 3) 1 63 := ⟨by decide +kernel, rfl⟩
theorem eX12_constants_63 : vD cX12_constants 63 (.iconst 0) 1 64 := ⟨by decide +kernel, rfl⟩
theorem eX12_constants_64 : vD cX12_constants 64 (.istore 4) 2 66 := ⟨by decide +kernel, rfl⟩
theorem eX12_constants_66 : vD cX12_constants 66 (.iload 4) 2 68 := ⟨by decide +kernel, rfl⟩
theorem eX12_constants_68 : vD cX12_constants 68 (.bipush 24) 2 70 := ⟨by decide +kernel, rfl⟩
theorem eX12_constants_70 : vD cX12_constants 70 (.if_icmp .ge 49) 3 73 := ⟨by decide +kernel, rfl⟩
theorem eX12_constants_73 : vD cX12_constants 73 (.aload_n 0) 1 74 := ⟨by decide +kernel, rfl⟩
theorem eX12_constants_74 : vD cX12_constants 74 (.getfield 42) 3 77 := ⟨by decide +kernel, rfl⟩
theorem eX12_constants_77 : vD cX12_constants 77 (.iload_n 2) 1 78 := ⟨by decide +kernel, rfl⟩
theorem eX12_constants_78 : vD cX12_constants 78 (.iconst 5) 1 79 := ⟨by decide +kernel, rfl⟩
theorem eX12_constants_79 : vD cX12_constants 79 (.iload_n 3) 1 80 := ⟨by decide +kernel, rfl⟩
theorem eX12_constants_80 : vD cX12_constants 80 .imul 1 81 := ⟨by decide +kernel, rfl⟩
theorem eX12_constants_81 : vD cX12_constants 81 .iadd 1 82 := ⟨by decide +kernel, rfl⟩
theorem eX12_constants_82 : vD cX12_constants 82 (.iload 4) 2 84 := ⟨by decide +kernel, rfl⟩
theorem eX12_constants_84 : vD cX12_constants 84 (.iconst 1) 1 85 := ⟨by decide +kernel, rfl⟩
theorem eX12_constants_85 : vD cX12_constants 85 .iadd 1 86 := ⟨by decide +kernel, rfl⟩
theorem eX12_constants_86 : vD cX12_constants 86 (.iload 4) 2 88 := ⟨by decide +kernel, rfl⟩
theorem eX12_constants_88 : vD cX12_constants 88 (.iconst 2) 1 89 := ⟨by decide +kernel, rfl⟩
theorem eX12_constants_89 : vD cX12_constants 89 .iadd 1 90 := ⟨by decide +kernel, rfl⟩
theorem eX12_constants_90 : vD cX12_constants 90 .imul 1 91 := ⟨by decide +kernel, rfl⟩
theorem eX12_constants_91 : vD cX12_constants 91 (.iconst 2) 1 92 := ⟨by decide +kernel, rfl⟩
theorem eX12_constants_92 : vD cX12_constants 92 .idiv 1 93 := ⟨by decide +kernel, rfl⟩
theorem eX12_constants_93 : vD cX12_constants 93 (.bipush 64) 2 95 := ⟨by decide +kernel, rfl⟩
theorem eX12_constants_95 : vD cX12_constants 95 .irem 1 96 := ⟨by decide +kernel, rfl⟩
theorem eX12_constants_96 : vD cX12_constants 96 .iastore 1 97 := ⟨by decide +kernel, rfl⟩
theorem eX12_constants_97 : vD cX12_constants 97 (.iconst 2) 1 98 := ⟨by decide +kernel, rfl⟩
theorem eX12_constants_98 : vD cX12_constants 98 (.iload_n 2) 1 99 := ⟨by decide +kernel, rfl⟩
theorem eX12_constants_99 : vD cX12_constants 99 .imul 1 100 := ⟨by decide +kernel, rfl⟩
theorem eX12_constants_100 : vD cX12_constants 100 (.iconst 3) 1 101 := ⟨by decide +kernel, rfl⟩
theorem eX12_constants_101 : vD cX12_constants 101 (.iload_n 3) 1 102 := ⟨by decide +kernel, rfl⟩
theorem eX12_constants_102 : vD cX12_constants 102 .imul 1 103 := ⟨by decide +kernel, rfl⟩
theorem eX12_constants_103 : vD cX12_constants 103 .iadd 1 104 := ⟨by decide +kernel, rfl⟩
theorem eX12_constants_104 : vD cX12_constants 104 (.iconst 5) 1 105 := ⟨by decide +kernel, rfl⟩
theorem eX12_constants_105 : vD cX12_constants 105 .irem 1 106 := ⟨by decide +kernel, rfl⟩
theorem eX12_constants_106 : vD cX12_constants 106 (.istore 5) 2 108 := ⟨by decide +kernel, rfl⟩
theorem eX12_constants_108 : vD cX12_constants 108 (.iload_n 3) 1 109 := ⟨by decide +kernel, rfl⟩
theorem eX12_constants_109 : vD cX12_constants 109 (.istore_n 2) 1 110 := ⟨by decide +kernel, rfl⟩
theorem eX12_constants_110 : vD cX12_constants 110 (.iload 5) 2 112 := ⟨by decide +kernel, rfl⟩
theorem eX12_constants_112 : vD cX12_constants 112 (.istore_n 3) 1 113 := ⟨by decide +kernel, rfl⟩
theorem eX12_constants_113 : vD cX12_constants 113 (.iinc 4 1) 3 116 := ⟨by decide +kernel, rfl⟩
theorem eX12_constants_116 : vD cX12_constants 116 (.goto (-50)) 3 119 := ⟨by decide +kernel, rfl⟩
theorem eX12_constants_119 : vD cX12_constants 119 (.iconst 0) 1 120 := ⟨by decide +kernel, rfl⟩
theorem eX12_constants_120 : vD cX12_constants 120 (.istore 4) 2 122 := ⟨by decide +kernel, rfl⟩
theorem eX12_constants_122 : vD cX12_constants 122 (.iload 4) 2 124 := ⟨by decide +kernel, rfl⟩
theorem eX12_constants_124 : vD cX12_constants 124 (.bipush 24) 2 126 := ⟨by decide +kernel, rfl⟩
theorem eX12_constants_126 : vD cX12_constants 126 (.if_icmp .ge 58) 3 129 := ⟨by decide +kernel, rfl⟩
theorem eX12_constants_129 : vD cX12_constants 129 (.iconst 0) 1 130 := ⟨by decide +kernel, rfl⟩
theorem eX12_constants_130 : vD cX12_constants 130 (.istore 5) 2 132 := ⟨by decide +kernel, rfl⟩
theorem eX12_constants_132 : vD cX12_constants 132 (.iload 5) 2 134 := ⟨by decide +kernel, rfl⟩
theorem eX12_constants_134 : vD cX12_constants 134 (.bipush 6) 2 136 := ⟨by decide +kernel, rfl⟩
theorem eX12_constants_136 : vD cX12_constants 136 (.if_icmp .gt 42) 3 139 := ⟨by decide +kernel, rfl⟩
theorem eX12_constants_139 : vD cX12_constants 139 (.iload 5) 2 141 := ⟨by decide +kernel, rfl⟩
theorem eX12_constants_141 : vD cX12_constants 141 (.bipush 7) 2 143 := ⟨by decide +kernel, rfl⟩
theorem eX12_constants_143 : vD cX12_constants 143 (.iload 4) 2 145 := ⟨by decide +kernel, rfl⟩
theorem eX12_constants_145 : vD cX12_constants 145 .imul 1 146 := ⟨by decide +kernel, rfl⟩
theorem eX12_constants_146 : vD cX12_constants 146 .iadd 1 147 := ⟨by decide +kernel, rfl⟩
theorem eX12_constants_147 : vD cX12_constants 147 (.invokestatic 158) 3 150 := ⟨by decide +kernel, rfl⟩
theorem eX12_constants_150 : vD cX12_constants 150 (.iconst 1) 1 151 := ⟨by decide +kernel, rfl⟩
theorem eX12_constants_151 : vD cX12_constants 151 (.if_icmp .ne 21) 3 154 := ⟨by decide +kernel, rfl⟩
theorem eX12_constants_154 : vD cX12_constants 154 (.aload_n 0) 1 155 := ⟨by decide +kernel, rfl⟩
theorem eX12_constants_155 : vD cX12_constants 155 (.getfield 45) 3 158 := ⟨by decide +kernel, rfl⟩
theorem eX12_constants_158 : vD cX12_constants 158 (.iload 4) 2 160 := ⟨by decide +kernel, rfl⟩
theorem eX12_constants_160 : vD cX12_constants 160 .dup2 1 161 := ⟨by decide +kernel, rfl⟩
theorem eX12_constants_161 : vD cX12_constants 161 .laload 1 162 := ⟨by decide +kernel, rfl⟩
theorem eX12_constants_162 : vD cX12_constants 162 (.lconst 1) 1 163 := ⟨by decide +kernel, rfl⟩
theorem eX12_constants_163 : vD cX12_constants 163 (.iconst 1) 1 164 := ⟨by decide +kernel, rfl⟩
theorem eX12_constants_164 : vD cX12_constants 164 (.iload 5) 2 166 := ⟨by decide +kernel, rfl⟩
theorem eX12_constants_166 : vD cX12_constants 166 .ishl 1 167 := ⟨by decide +kernel, rfl⟩
theorem eX12_constants_167 : vD cX12_constants 167 (.iconst 1) 1 168 := ⟨by decide +kernel, rfl⟩
theorem eX12_constants_168 : vD cX12_constants 168 .isub 1 169 := ⟨by decide +kernel, rfl⟩
theorem eX12_constants_169 : vD cX12_constants 169 .lshl 1 170 := ⟨by decide +kernel, rfl⟩
theorem eX12_constants_170 : vD cX12_constants 170 .lor 1 171 := ⟨by decide +kernel, rfl⟩
theorem eX12_constants_171 : vD cX12_constants 171 .lastore 1 172 := ⟨by decide +kernel, rfl⟩
theorem eX12_constants_172 : vD cX12_constants 172 (.iinc 5 1) 3 175 := ⟨by decide +kernel, rfl⟩
theorem eX12_constants_175 : vD cX12_constants 175 (.goto (-43)) 3 178 := ⟨by decide +kernel, rfl⟩
theorem eX12_constants_178 : vD cX12_constants 178 (.iinc 4 1) 3 181 := ⟨by decide +kernel, rfl⟩
theorem eX12_constants_181 : vD cX12_constants 181 (.goto (-59)) 3 184 := ⟨by decide +kernel, rfl⟩
theorem eX12_constants_184 : vD cX12_constants 184 (.aload_n 0) 1 185 := ⟨by decide +kernel, rfl⟩
theorem eX12_constants_185 : vD cX12_constants 185 (.aload_n 0) 1 186 := ⟨by decide +kernel, rfl⟩
theorem eX12_constants_186 : vD cX12_constants 186 (.getfield 30) 3 189 := ⟨by decide +kernel, rfl⟩
theorem eX12_constants_189 : vD cX12_constants 189 (.bipush 50) 2 191 := ⟨by decide +kernel, rfl⟩
theorem eX12_constants_191 : vD cX12_constants 191 (.bipush 52) 2 193 := ⟨by decide +kernel, rfl⟩
theorem eX12_constants_193 : vD cX12_constants 193 (.invokevirtual 162) 3 196 := ⟨by decide +kernel, rfl⟩
theorem eX12_constants_196 : vD cX12_constants 196 (.aload_n 0) 1 197 := ⟨by decide +kernel, rfl⟩
theorem eX12_constants_197 : vD cX12_constants 197 (.aload_n 0) 1 198 := ⟨by decide +kernel, rfl⟩
theorem eX12_constants_198 : vD cX12_constants 198 (.getfield 33) 3 201 := ⟨by decide +kernel, rfl⟩
theorem eX12_constants_201 : vD cX12_constants 201 (.bipush 53) 2 203 := ⟨by decide +kernel, rfl⟩
theorem eX12_constants_203 : vD cX12_constants 203 (.bipush 54) 2 205 := ⟨by decide +kernel, rfl⟩
theorem eX12_constants_205 : vD cX12_constants 205 (.invokevirtual 162) 3 208 := ⟨by decide +kernel, rfl⟩
theorem eX12_constants_208 : vD cX12_constants 208 .return_ 1 209 := ⟨by decide +kernel, rfl⟩
theorem eX12_named_0 : vD cX12_named 0 (.aload_n 0) 1 1 := ⟨by decide +kernel, rfl⟩
theorem eX12_named_1 : vD cX12_named 1 (.iconst 3) 1 2 := ⟨by decide +kernel, rfl⟩
theorem eX12_named_2 : vD cX12_named 2 (.invokevirtual 166) 3 5 := ⟨by decide +kernel, rfl⟩
theorem eX12_named_5 : vD cX12_named 5 (.iconst 0) 1 6 := ⟨by decide +kernel, rfl⟩
theorem eX12_named_6 : vD cX12_named 6 (.istore 4) 2 8 := ⟨by decide +kernel, rfl⟩
theorem eX12_named_8 : vD cX12_named 8 (.iload 4) 2 10 := ⟨by decide +kernel, rfl⟩
theorem eX12_named_10 : vD cX12_named 10 (.bipush 8) 2 12 := ⟨by decide +kernel, rfl⟩
theorem eX12_named_12 : vD cX12_named 12 (.if_icmp .ge 22) 3 15 := ⟨by decide +kernel, rfl⟩
theorem eX12_named_15 : vD cX12_named 15 (.aload_n 0) 1 16 := ⟨by decide +kernel, rfl⟩
theorem eX12_named_16 : vD cX12_named 16 (.getfield 48) 3 19 := ⟨by decide +kernel, rfl⟩
theorem eX12_named_19 : vD cX12_named 19 (.iload 4) 2 21 := ⟨by decide +kernel, rfl⟩
theorem eX12_named_21 : vD cX12_named 21 .dup2 1 22 := ⟨by decide +kernel, rfl⟩
theorem eX12_named_22 : vD cX12_named 22 .laload 1 23 := ⟨by decide +kernel, rfl⟩
theorem eX12_named_23 : vD cX12_named 23 (.ldc2_w 169) 3 26 := ⟨by decide +kernel, rfl⟩
theorem eX12_named_26 : vD cX12_named 26 .lxor 1 27 := ⟨by decide +kernel, rfl⟩
theorem eX12_named_27 : vD cX12_named 27 .lastore 1 28 := ⟨by decide +kernel, rfl⟩
theorem eX12_named_28 : vD cX12_named 28 (.iinc 4 1) 3 31 := ⟨by decide +kernel, rfl⟩
theorem eX12_named_31 : vD cX12_named 31 (.goto (-23)) 3 34 := ⟨by decide +kernel, rfl⟩
theorem eX12_named_34 : vD cX12_named 34 (.aload_n 0) 1 35 := ⟨by decide +kernel, rfl⟩
theorem eX12_named_35 : vD cX12_named 35 (.bipush 83) 2 37 := ⟨by decide +kernel, rfl⟩
theorem eX12_named_37 : vD cX12_named 37 (.invokevirtual 171) 3 40 := ⟨by decide +kernel, rfl⟩
theorem eX12_named_40 : vD cX12_named 40 (.aload_n 0) 1 41 := ⟨by decide +kernel, rfl⟩
theorem eX12_named_41 : vD cX12_named 41 (.bipush 72) 2 43 := ⟨by decide +kernel, rfl⟩
theorem eX12_named_43 : vD cX12_named 43 (.invokevirtual 171) 3 46 := ⟨by decide +kernel, rfl⟩
theorem eX12_named_46 : vD cX12_named 46 (.aload_n 0) 1 47 := ⟨by decide +kernel, rfl⟩
theorem eX12_named_47 : vD cX12_named 47 (.bipush 65) 2 49 := ⟨by decide +kernel, rfl⟩
theorem eX12_named_49 : vD cX12_named 49 (.invokevirtual 171) 3 52 := ⟨by decide +kernel, rfl⟩
theorem eX12_named_52 : vD cX12_named 52 (.aload_n 0) 1 53 := ⟨by decide +kernel, rfl⟩
theorem eX12_named_53 : vD cX12_named 53 (.bipush 45) 2 55 := ⟨by decide +kernel, rfl⟩
theorem eX12_named_55 : vD cX12_named 55 (.invokevirtual 171) 3 58 := ⟨by decide +kernel, rfl⟩
theorem eX12_named_58 : vD cX12_named 58 (.aload_n 0) 1 59 := ⟨by decide +kernel, rfl⟩
theorem eX12_named_59 : vD cX12_named 59 (.bipush 53) 2 61 := ⟨by decide +kernel, rfl⟩
theorem eX12_named_61 : vD cX12_named 61 (.invokevirtual 171) 3 64 := ⟨by decide +kernel, rfl⟩
theorem eX12_named_64 : vD cX12_named 64 (.aload_n 0) 1 65 := ⟨by decide +kernel, rfl⟩
theorem eX12_named_65 : vD cX12_named 65 (.bipush 49) 2 67 := ⟨by decide +kernel, rfl⟩
theorem eX12_named_67 : vD cX12_named 67 (.invokevirtual 171) 3 70 := ⟨by decide +kernel, rfl⟩
theorem eX12_named_70 : vD cX12_named 70 (.aload_n 0) 1 71 := ⟨by decide +kernel, rfl⟩
theorem eX12_named_71 : vD cX12_named 71 (.bipush 50) 2 73 := ⟨by decide +kernel, rfl⟩
theorem eX12_named_73 : vD cX12_named 73 (.invokevirtual 171) 3 76 := ⟨by decide +kernel, rfl⟩
theorem eX12_named_76 : vD cX12_named 76 (.aload_n 0) 1 77 := ⟨by decide +kernel, rfl⟩
theorem eX12_named_77 : vD cX12_named 77 (.bipush 47) 2 79 := ⟨by decide +kernel, rfl⟩
theorem eX12_named_79 : vD cX12_named 79 (.invokevirtual 171) 3 82 := ⟨by decide +kernel, rfl⟩
theorem eX12_named_82 : vD cX12_named 82 (.aload_n 0) 1 83 := ⟨by decide +kernel, rfl⟩
theorem eX12_named_83 : vD cX12_named 83 (.bipush 50) 2 85 := ⟨by decide +kernel, rfl⟩
theorem eX12_named_85 : vD cX12_named 85 (.invokevirtual 171) 3 88 := ⟨by decide +kernel, rfl⟩
theorem eX12_named_88 : vD cX12_named 88 (.aload_n 0) 1 89 := ⟨by decide +kernel, rfl⟩
theorem eX12_named_89 : vD cX12_named 89 (.iload_n 2) 1 90 := ⟨by decide +kernel, rfl⟩
theorem eX12_named_90 : vD cX12_named 90 (.invokevirtual 171) 3 93 := ⟨by decide +kernel, rfl⟩
theorem eX12_named_93 : vD cX12_named 93 (.aload_n 0) 1 94 := ⟨by decide +kernel, rfl⟩
theorem eX12_named_94 : vD cX12_named 94 (.iload_n 3) 1 95 := ⟨by decide +kernel, rfl⟩
theorem eX12_named_95 : vD cX12_named 95 (.invokevirtual 171) 3 98 := ⟨by decide +kernel, rfl⟩
theorem eX12_named_98 : vD cX12_named 98 (.aload_n 0) 1 99 := ⟨by decide +kernel, rfl⟩
theorem eX12_named_99 : vD cX12_named 99 (.invokevirtual 174) 3 102 := ⟨by decide +kernel, rfl⟩
theorem eX12_named_102 : vD cX12_named 102 (.iconst 0) 1 103 := ⟨by decide +kernel, rfl⟩
theorem eX12_named_103 : vD cX12_named 103 (.istore 4) 2 105 := ⟨by decide +kernel, rfl⟩
theorem eX12_named_105 : vD cX12_named 105 (.iload 4) 2 107 := ⟨by decide +kernel, rfl⟩
theorem eX12_named_107 : vD cX12_named 107 (.bipush 8) 2 109 := ⟨by decide +kernel, rfl⟩
theorem eX12_named_109 : vD cX12_named 109 (.if_icmp .ge 20) 3 112 := ⟨by decide +kernel, rfl⟩
theorem eX12_named_112 : vD cX12_named 112 (.aload_n 1) 1 113 := ⟨by decide +kernel, rfl⟩
theorem eX12_named_113 : vD cX12_named 113 (.iload 4) 2 115 := ⟨by decide +kernel, rfl⟩
theorem eX12_named_115 : vD cX12_named 115 (.aload_n 0) 1 116 := ⟨by decide +kernel, rfl⟩
theorem eX12_named_116 : vD cX12_named 116 (.getfield 48) 3 119 := ⟨by decide +kernel, rfl⟩
theorem eX12_named_119 : vD cX12_named 119 (.iload 4) 2 121 := ⟨by decide +kernel, rfl⟩
theorem eX12_named_121 : vD cX12_named 121 .laload 1 122 := ⟨by decide +kernel, rfl⟩
theorem eX12_named_122 : vD cX12_named 122 .lastore 1 123 := ⟨by decide +kernel, rfl⟩
theorem eX12_named_123 : vD cX12_named 123 (.iinc 4 1) 3 126 := ⟨by decide +kernel, rfl⟩
theorem eX12_named_126 : vD cX12_named 126 (.goto (-21)) 3 129 := ⟨by decide +kernel, rfl⟩
theorem eX12_named_129 : vD cX12_named 129 .return_ 1 130 := ⟨by decide +kernel, rfl⟩

def pr (n : Nat) : Bool := (List.range 32).all (fun d => decide (d < 2) || decide (n < d * d) || decide (n % d ≠ 0))
theorem pr_yes {n d : Nat} (hd : n < d * d) (h : ∀ e, 2 ≤ e → e < d → n % e ≠ 0) : pr n = true := by
  unfold pr
  rw [List.all_eq_true]
  intro e _
  by_cases h1 : e < 2
  · simp [h1]
  · by_cases h2 : e < d
    · simp [h e (by omega) h2]
    · have : d * d ≤ e * e := Nat.mul_le_mul (by omega) (by omega)
      have h3 : n < e * e := by omega
      simp [h3]
theorem pr_no {n d : Nat} (h2 : 2 ≤ d) (h32 : d < 32) (hd : d * d ≤ n) (h : n % d = 0) : pr n = false := by
  by_cases q : pr n = true
  · unfold pr at q
    rw [List.all_eq_true] at q
    have := q d (List.mem_range.mpr h32)
    simp only [Bool.or_eq_true, decide_eq_true_eq] at this
    omega
  · simpa using q
section M45
variable {G : vG} {B : Nat} {l : Launch} {ad : Nat → Nat} {N : Nat} {σ : nS} {x : Nat → Int32} {t : Int64}
set_option maxRecDepth 100000 in
set_option maxHeartbeats 4000000 in
theorem c_prime  (n : Nat) (hn : n < 625) : nOk G B l ad N yX12_prime cX12_prime 2 (some .boolean) 0 0 0 [.int (nI n)] σ (fun r σ' => r = some (.int (if pr n = true then 1 else 0)) ∧ σ' = σ) := by
  refine vOk.of (by decide +kernel) (Nat.le_of_ble_eq_true rfl) ?_
  intro p e s m args below meth c C
  refine v_eq (lv' := [(0, .int (nI n))]) rfl rfl rfl ?_
  refine v_iconst (v := (2 : Int32)) C eX12_prime_0 (by decide) ?_
  refine v_natT (show (2 : Int32) = nI (2 + 0) from rfl) ?_
  refine v_istore_n (lv' := [(0, .int (nI n)), (1, .int (nI (2 + 0)))]) C eX12_prime_1 rfl (by decide) [1, 0] rfl ?_
  refine v_forP (fun j τ => τ = σ ∧ ∀ e, 2 ≤ e → e < 2 + j → n % e ≠ 0) (fun j => [(0, .int (nI n)), (1, .int (nI (2 + j)))]) 30 ?_ ?_ _ ⟨rfl, fun e h1 h2 => absurd h2 (by omega)⟩
  · intro τ hI
    obtain ⟨hI1, hI2⟩ := hI
    rw [hI1]
    refine v_iload_n C eX12_prime_2 rfl 1 rfl ?_
    refine v_iload_n C eX12_prime_3 rfl 1 rfl ?_
    refine v_imul C eX12_prime_4 ?_
    refine v_iload_n C eX12_prime_5 rfl 0 rfl ?_
    refine v_icmp_gt (tgt := 23) C eX12_prime_6 (by decide) (fun _ => ?_) (fun h => absurd (ix_lt (a := n) (b := (2 + 30) * (2 + 30)) (rfl : nI n = nI n) (ix_mul (a := 2 + 30) (b := 2 + 30) (rfl : nI (2 + 30) = nI (2 + 30)) (rfl : nI (2 + 30) = nI (2 + 30))) (by omega) (by omega) (by omega)) h)
    refine v_iconst (v := (1 : Int32)) C eX12_prime_23 (by decide) ?_
    exact n_zret C rfl rfl eX12_prime_24 ⟨by rw [pr_yes (d := 2 + 30) (by omega) hI2]; rfl, rfl⟩
  · intro j hj ih τ hI
    obtain ⟨hI1, hI2⟩ := hI
    rw [hI1]
    have hdd : (2 + j) * (2 + j) < 1024 := Nat.lt_of_le_of_lt (Nat.mul_le_mul (show 2 + j ≤ 31 by omega) (show 2 + j ≤ 31 by omega)) (by decide)
    refine v_iload_n C eX12_prime_2 rfl 1 rfl ?_
    refine v_iload_n C eX12_prime_3 rfl 1 rfl ?_
    refine v_imul C eX12_prime_4 ?_
    refine v_iload_n C eX12_prime_5 rfl 0 rfl ?_
    by_cases c : n < (2 + j) * (2 + j)
    · refine v_icmp_gt (tgt := 23) C eX12_prime_6 (by decide) (fun _ => ?_) (fun h => absurd (ix_lt (a := n) (b := (2 + j) * (2 + j)) (rfl : nI n = nI n) (ix_mul (a := 2 + j) (b := 2 + j) (rfl : nI (2 + j) = nI (2 + j)) (rfl : nI (2 + j) = nI (2 + j))) (by omega) (by omega) (by omega)) h)
      refine v_iconst (v := (1 : Int32)) C eX12_prime_23 (by decide) ?_
      exact n_zret C rfl rfl eX12_prime_24 ⟨by rw [pr_yes (d := 2 + j) (by omega) hI2]; rfl, rfl⟩
    · refine v_icmp_gt (tgt := 23) C eX12_prime_6 (by decide) (fun h => absurd h (ix_nlt (a := n) (b := (2 + j) * (2 + j)) (rfl : nI n = nI n) (ix_mul (a := 2 + j) (b := 2 + j) (rfl : nI (2 + j) = nI (2 + j)) (rfl : nI (2 + j) = nI (2 + j))) (by omega) (by omega) (by omega))) (fun _ => ?_)
      refine v_iload_n C eX12_prime_9 rfl 0 rfl ?_
      refine v_iload_n C eX12_prime_10 rfl 1 rfl ?_
      refine v_irem C eX12_prime_11 (nI_ne0 (by omega) (by omega)) ?_
      have hml : n % (2 + j) < 2 + j := Nat.mod_lt _ (by omega)
      by_cases c2 : n % (2 + j) = 0
      · refine v_if_ne (tgt := 17) C eX12_prime_12 (by decide) (fun h => absurd (ix_eq (a := n % (2 + j)) (b := 0) (ix_rem (a := n) (d := 2 + j) (rfl : nI n = nI n) (rfl : nI (2 + j) = nI (2 + j)) (by omega) (by omega) (by omega)) (rfl : (0 : Int32) = nI 0) (by omega) (by omega) (by omega)) h) (fun _ => ?_)
        refine v_iconst (v := (0 : Int32)) C eX12_prime_15 (by decide) ?_
        exact n_zret C rfl rfl eX12_prime_16 ⟨by rw [pr_no (d := 2 + j) (by omega) (by omega) (by omega) c2]; rfl, rfl⟩
      · refine v_if_ne (tgt := 17) C eX12_prime_12 (by decide) (fun _ => ?_) (fun h => absurd h (ix_ne (a := n % (2 + j)) (b := 0) (ix_rem (a := n) (d := 2 + j) (rfl : nI n = nI n) (rfl : nI (2 + j) = nI (2 + j)) (by omega) (by omega) (by omega)) (rfl : (0 : Int32) = nI 0) (by omega) (by omega) (by omega)))
        refine v_iinc (lv' := [(0, .int (nI n)), (1, .int (nI (2 + j + 1)))]) C eX12_prime_17 1 rfl (ix_inc _) (by decide) [1, 0] rfl ?_
        refine v_goto (tgt := 2) C eX12_prime_20 (by decide) ?_
        refine ih _ ⟨rfl, fun e h1 h2 => ?_⟩
        by_cases g : e = 2 + j
        · rw [g]; exact c2
        · exact hI2 e h1 (by omega)

/-- the register of the round constants -/
def rgs (v : Nat) : Nat := if v < 128 then 2 * v else (2 * v % 256) ^^^ 113
def rgN : Nat → Nat
  | 0 => 1
  | i + 1 => rgs (rgN i)
theorem rgN_lt : ∀ i, rgN i < 256
  | 0 => by decide
  | i + 1 => by
    have h := rgN_lt i
    show rgs (rgN i) < 256
    unfold rgs
    split
    · omega
    · exact Nat.xor_lt_two_pow (n := 8) (by omega) (by decide)
set_option maxRecDepth 100000 in
set_option maxHeartbeats 4000000 in
theorem c_bit  (tt : Nat) (hn : tt < 2 ^ 31) : nOk G B l ad N yX12_bit cX12_bit 3 (some .int) 0 0 0 [.int (nI tt)] σ (fun r σ' => r = some (.int (nI (rgN (tt % 255) % 2))) ∧ σ' = σ) := by
  refine vOk.of (by decide +kernel) (Nat.le_of_ble_eq_true rfl) ?_
  intro p e s m args below meth c C
  refine v_eq (lv' := [(0, .int (nI tt))]) rfl rfl rfl ?_
  refine v_iconst (v := nI 1) C eX12_bit_0 (by decide) ?_
  refine v_istore_n (lv' := [(0, .int (nI tt)), (1, .int (nI 1))]) C eX12_bit_1 rfl (by decide) [1, 0] rfl ?_
  refine v_iconst (v := nI 0) C eX12_bit_2 (by decide) ?_
  refine v_istore_n (lv' := [(0, .int (nI tt)), (1, .int (nI 1)), (2, .int (nI 0))]) C eX12_bit_3 rfl (by decide) [1, 2, 0] rfl ?_
  refine v_forP (fun j τ => τ = σ) (fun j => [(0, .int (nI tt)), (1, .int (nI (rgN j))), (2, .int (nI j))]) (tt % 255) ?_ ?_ _ rfl
  · intro τ hI
    rw [hI]
    refine v_iload_n C eX12_bit_4 rfl 2 rfl ?_
    refine v_iload_n C eX12_bit_5 rfl 0 rfl ?_
    refine v_sipush (v := (255 : Int32)) C eX12_bit_6 (by decide) ?_
    refine v_irem C eX12_bit_9 (by decide) ?_
    refine v_icmp_ge (tgt := 43) C eX12_bit_10 (by decide) (fun _ => ?_) (fun h => absurd (ix_le (a := tt % 255) (b := tt % 255) (ix_rem (a := tt) (d := 255) (rfl : nI tt = nI tt) (rfl : (255 : Int32) = nI 255) (by omega) (by omega) (by omega)) (rfl : nI (tt % 255) = nI (tt % 255)) (by omega) (by omega) (by omega)) h)
    have hl := rgN_lt (tt % 255)
    refine v_iload_n C eX12_bit_43 rfl 1 rfl ?_
    refine v_iconst (v := (1 : Int32)) C eX12_bit_44 (by decide) ?_
    refine v_iand C eX12_bit_45 ?_
    refine v_natT (show (nI (rgN (tt % 255))) &&& ((1 : Int32)) = nI ((rgN (tt % 255)) % 2) from (ix_and (a := rgN (tt % 255)) (rfl : nI (rgN (tt % 255)) = nI (rgN (tt % 255))) 1 (by decide) (by omega))) ?_
    exact n_iret C rfl eX12_bit_46 ⟨rfl, rfl⟩
  · intro j hj ih τ hI
    rw [hI]
    refine v_iload_n C eX12_bit_4 rfl 2 rfl ?_
    refine v_iload_n C eX12_bit_5 rfl 0 rfl ?_
    refine v_sipush (v := (255 : Int32)) C eX12_bit_6 (by decide) ?_
    refine v_irem C eX12_bit_9 (by decide) ?_
    refine v_icmp_ge (tgt := 43) C eX12_bit_10 (by decide) (fun h => absurd h (ix_nle (a := tt % 255) (b := j) (ix_rem (a := tt) (d := 255) (rfl : nI tt = nI tt) (rfl : (255 : Int32) = nI 255) (by omega) (by omega) (by omega)) (rfl : nI j = nI j) (by omega) (by omega) (by omega))) (fun _ => ?_)
    have hl := rgN_lt j
    refine v_iload_n C eX12_bit_13 rfl 1 rfl ?_
    refine v_sipush (v := (128 : Int32)) C eX12_bit_14 (by decide) ?_
    by_cases c : rgN j < 128
    · refine v_icmp_ge (tgt := 26) C eX12_bit_17 (by decide) (fun h => absurd h (ix_nle (a := 128) (b := rgN j) (rfl : (128 : Int32) = nI 128) (rfl : nI (rgN j) = nI (rgN j)) (by omega) (by omega) (by omega))) (fun _ => ?_)
      refine v_iconst (v := (2 : Int32)) C eX12_bit_20 (by decide) ?_
      refine v_iload_n C eX12_bit_21 rfl 1 rfl ?_
      refine v_imul C eX12_bit_22 ?_
      refine v_goto (tgt := 36) C eX12_bit_23 (by decide) ?_
      refine v_natT (show ((2 : Int32)) * (nI (rgN j)) = nI (rgN (j + 1)) from ((ix_mul (a := 2) (b := rgN j) (rfl : (2 : Int32) = nI 2) (rfl : nI (rgN j) = nI (rgN j)))).trans (congrArg nI (show _ = rgs (rgN j) from by unfold rgs; rw [if_pos c]))) ?_
      refine v_istore_n (lv' := [(0, .int (nI tt)), (1, .int (nI (rgN (j + 1)))), (2, .int (nI j))]) C eX12_bit_36 rfl (by decide) [1, 0, 2] rfl ?_
      refine v_iinc (lv' := [(0, .int (nI tt)), (1, .int (nI (rgN (j + 1)))), (2, .int (nI (j + 1)))]) C eX12_bit_37 2 rfl (ix_inc _) (by decide) [1, 2, 0] rfl ?_
      refine v_goto (tgt := 4) C eX12_bit_40 (by decide) ?_
      exact ih _ rfl
    · refine v_icmp_ge (tgt := 26) C eX12_bit_17 (by decide) (fun _ => ?_) (fun h => absurd (ix_le (a := 128) (b := rgN j) (rfl : (128 : Int32) = nI 128) (rfl : nI (rgN j) = nI (rgN j)) (by omega) (by omega) (by omega)) h)
      refine v_iconst (v := (2 : Int32)) C eX12_bit_26 (by decide) ?_
      refine v_iload_n C eX12_bit_27 rfl 1 rfl ?_
      refine v_imul C eX12_bit_28 ?_
      refine v_sipush (v := (255 : Int32)) C eX12_bit_29 (by decide) ?_
      refine v_iand C eX12_bit_32 ?_
      refine v_bipush (v := (113 : Int32)) C eX12_bit_33 (by decide) ?_
      refine v_ixor C eX12_bit_35 ?_
      refine v_natT (show ((((2 : Int32)) * (nI (rgN j))) &&& ((255 : Int32))) ^^^ ((113 : Int32)) = nI (rgN (j + 1)) from ((ix_xor (a := (2 * (rgN j)) % 256) (b := 113) (ix_and (a := 2 * (rgN j)) (ix_mul (a := 2) (b := rgN j) (rfl : (2 : Int32) = nI 2) (rfl : nI (rgN j) = nI (rgN j))) 8 (by decide) (by omega)) (rfl : (113 : Int32) = nI 113) (by omega) (by omega))).trans (congrArg nI (show _ = rgs (rgN j) from by unfold rgs; rw [if_neg c]))) ?_
      refine v_istore_n (lv' := [(0, .int (nI tt)), (1, .int (nI (rgN (j + 1)))), (2, .int (nI j))]) C eX12_bit_36 rfl (by decide) [1, 0, 2] rfl ?_
      refine v_iinc (lv' := [(0, .int (nI tt)), (1, .int (nI (rgN (j + 1)))), (2, .int (nI (j + 1)))]) C eX12_bit_37 2 rfl (ix_inc _) (by decide) [1, 2, 0] rfl ?_
      refine v_goto (tgt := 4) C eX12_bit_40 (by decide) ?_
      exact ih _ rfl

end M45
