theorem eX12_digitsOf_0 : vD cX12_digitsOf 0 (.iconst 0) 1 1 := ⟨by decide +kernel, rfl⟩
theorem eX12_digitsOf_1 : vD cX12_digitsOf 1 (.istore_n 3) 1 2 := ⟨by decide +kernel, rfl⟩
theorem eX12_digitsOf_2 : vD cX12_digitsOf 2 (.iconst 0) 1 3 := ⟨by decide +kernel, rfl⟩
theorem eX12_digitsOf_3 : vD cX12_digitsOf 3 (.istore 4) 2 5 := ⟨by decide +kernel, rfl⟩
theorem eX12_digitsOf_5 : vD cX12_digitsOf 5 (.iload 4) 2 7 := ⟨by decide +kernel, rfl⟩
theorem eX12_digitsOf_7 : vD cX12_digitsOf 7 (.iconst 2) 1 8 := ⟨by decide +kernel, rfl⟩
theorem eX12_digitsOf_8 : vD cX12_digitsOf 8 (.aload_n 0) 1 9 := ⟨by decide +kernel, rfl⟩
theorem eX12_digitsOf_9 : vD cX12_digitsOf 9 (.getfield 243) 3 12 := ⟨by decide +kernel, rfl⟩
theorem eX12_digitsOf_12 : vD cX12_digitsOf 12 .imul 1 13 := ⟨by decide +kernel, rfl⟩
theorem eX12_digitsOf_13 : vD cX12_digitsOf 13 (.if_icmp .ge 63) 3 16 := ⟨by decide +kernel, rfl⟩
theorem eX12_digitsOf_16 : vD cX12_digitsOf 16 (.aload_n 0) 1 17 := ⟨by decide +kernel, rfl⟩
theorem eX12_digitsOf_17 : vD cX12_digitsOf 17 (.getfield 105) 3 20 := ⟨by decide +kernel, rfl⟩
theorem eX12_digitsOf_20 : vD cX12_digitsOf 20 (.iload 4) 2 22 := ⟨by decide +kernel, rfl⟩
theorem eX12_digitsOf_22 : vD cX12_digitsOf 22 (.iload 4) 2 24 := ⟨by decide +kernel, rfl⟩
theorem eX12_digitsOf_24 : vD cX12_digitsOf 24 (.iconst 2) 1 25 := ⟨by decide +kernel, rfl⟩
theorem eX12_digitsOf_25 : vD cX12_digitsOf 25 .irem 1 26 := ⟨by decide +kernel, rfl⟩
theorem eX12_digitsOf_26 : vD cX12_digitsOf 26 (.ifCond .ne 19) 3 29 := ⟨by decide +kernel, rfl⟩
theorem eX12_digitsOf_29 : vD cX12_digitsOf 29 (.aload_n 1) 1 30 := ⟨by decide +kernel, rfl⟩
theorem eX12_digitsOf_30 : vD cX12_digitsOf 30 (.iload_n 2) 1 31 := ⟨by decide +kernel, rfl⟩
theorem eX12_digitsOf_31 : vD cX12_digitsOf 31 (.iload 4) 2 33 := ⟨by decide +kernel, rfl⟩
theorem eX12_digitsOf_33 : vD cX12_digitsOf 33 (.iconst 2) 1 34 := ⟨by decide +kernel, rfl⟩
theorem eX12_digitsOf_34 : vD cX12_digitsOf 34 .idiv 1 35 := ⟨by decide +kernel, rfl⟩
theorem eX12_digitsOf_35 : vD cX12_digitsOf 35 .iadd 1 36 := ⟨by decide +kernel, rfl⟩
theorem eX12_digitsOf_36 : vD cX12_digitsOf 36 .baload 1 37 := ⟨by decide +kernel, rfl⟩
theorem eX12_digitsOf_37 : vD cX12_digitsOf 37 (.iconst 4) 1 38 := ⟨by decide +kernel, rfl⟩
theorem eX12_digitsOf_38 : vD cX12_digitsOf 38 .ishr 1 39 := ⟨by decide +kernel, rfl⟩
theorem eX12_digitsOf_39 : vD cX12_digitsOf 39 (.bipush 15) 2 41 := ⟨by decide +kernel, rfl⟩
theorem eX12_digitsOf_41 : vD cX12_digitsOf 41 .iand 1 42 := ⟨by decide +kernel, rfl⟩
theorem eX12_digitsOf_42 : vD cX12_digitsOf 42 (.goto 14) 3 45 := ⟨by decide +kernel, rfl⟩
theorem eX12_digitsOf_45 : vD cX12_digitsOf 45 (.aload_n 1) 1 46 := ⟨by decide +kernel, rfl⟩
theorem eX12_digitsOf_46 : vD cX12_digitsOf 46 (.iload_n 2) 1 47 := ⟨by decide +kernel, rfl⟩
theorem eX12_digitsOf_47 : vD cX12_digitsOf 47 (.iload 4) 2 49 := ⟨by decide +kernel, rfl⟩
theorem eX12_digitsOf_49 : vD cX12_digitsOf 49 (.iconst 2) 1 50 := ⟨by decide +kernel, rfl⟩
theorem eX12_digitsOf_50 : vD cX12_digitsOf 50 .idiv 1 51 := ⟨by decide +kernel, rfl⟩
theorem eX12_digitsOf_51 : vD cX12_digitsOf 51 .iadd 1 52 := ⟨by decide +kernel, rfl⟩
theorem eX12_digitsOf_52 : vD cX12_digitsOf 52 .baload 1 53 := ⟨by decide +kernel, rfl⟩
theorem eX12_digitsOf_53 : vD cX12_digitsOf 53 (.bipush 15) 2 55 := ⟨by decide +kernel, rfl⟩
theorem eX12_digitsOf_55 : vD cX12_digitsOf 55 .iand 1 56 := ⟨by decide +kernel, rfl⟩
theorem eX12_digitsOf_56 : vD cX12_digitsOf 56 .iastore 1 57 := ⟨by decide +kernel, rfl⟩
theorem eX12_digitsOf_57 : vD cX12_digitsOf 57 (.iload_n 3) 1 58 := ⟨by decide +kernel, rfl⟩
theorem eX12_digitsOf_58 : vD cX12_digitsOf 58 (.bipush 15) 2 60 := ⟨by decide +kernel, rfl⟩
theorem eX12_digitsOf_60 : vD cX12_digitsOf 60 (.aload_n 0) 1 61 := ⟨by decide +kernel, rfl⟩
theorem eX12_digitsOf_61 : vD cX12_digitsOf 61 (.getfield 105) 3 64 := ⟨by decide +kernel, rfl⟩
theorem eX12_digitsOf_64 : vD cX12_digitsOf 64 (.iload 4) 2 66 := ⟨by decide +kernel, rfl⟩
theorem eX12_digitsOf_66 : vD cX12_digitsOf 66 .iaload 1 67 := ⟨by decide +kernel, rfl⟩
theorem eX12_digitsOf_67 : vD cX12_digitsOf 67 .isub 1 68 := ⟨by decide +kernel, rfl⟩
theorem eX12_digitsOf_68 : vD cX12_digitsOf 68 .iadd 1 69 := ⟨by decide +kernel, rfl⟩
theorem eX12_digitsOf_69 : vD cX12_digitsOf 69 (.istore_n 3) 1 70 := ⟨by decide +kernel, rfl⟩
theorem eX12_digitsOf_70 : vD cX12_digitsOf 70 (.iinc 4 1) 3 73 := ⟨by decide +kernel, rfl⟩
theorem eX12_digitsOf_73 : vD cX12_digitsOf 73 (.goto (-68)) 3 76 := ⟨by decide +kernel, rfl⟩
theorem eX12_digitsOf_76 : vD cX12_digitsOf 76 (.iload_n 3) 1 77 := ⟨by decide +kernel, rfl⟩
theorem eX12_digitsOf_77 : vD cX12_digitsOf 77 (.bipush 16) 2 79 := ⟨by decide +kernel, rfl⟩
theorem eX12_digitsOf_79 : vD cX12_digitsOf 79 .imul 1 80 := ⟨by decide +kernel, rfl⟩
theorem eX12_digitsOf_80 : vD cX12_digitsOf 80 (.istore_n 3) 1 81 := ⟨by decide +kernel, rfl⟩
theorem eX12_digitsOf_81 : vD cX12_digitsOf 81 (.aload_n 0) 1 82 := ⟨by decide +kernel, rfl⟩
theorem eX12_digitsOf_82 : vD cX12_digitsOf 82 (.getfield 105) 3 85 := ⟨by decide +kernel, rfl⟩
theorem eX12_digitsOf_85 : vD cX12_digitsOf 85 (.iconst 2) 1 86 := ⟨by decide +kernel, rfl⟩
theorem eX12_digitsOf_86 : vD cX12_digitsOf 86 (.aload_n 0) 1 87 := ⟨by decide +kernel, rfl⟩
theorem eX12_digitsOf_87 : vD cX12_digitsOf 87 (.getfield 243) 3 90 := ⟨by decide +kernel, rfl⟩
theorem eX12_digitsOf_90 : vD cX12_digitsOf 90 .imul 1 91 := ⟨by decide +kernel, rfl⟩
theorem eX12_digitsOf_91 : vD cX12_digitsOf 91 (.iload_n 3) 1 92 := ⟨by decide +kernel, rfl⟩
theorem eX12_digitsOf_92 : vD cX12_digitsOf 92 (.bipush 12) 2 94 := ⟨by decide +kernel, rfl⟩
theorem eX12_digitsOf_94 : vD cX12_digitsOf 94 .ishr 1 95 := ⟨by decide +kernel, rfl⟩
theorem eX12_digitsOf_95 : vD cX12_digitsOf 95 (.bipush 15) 2 97 := ⟨by decide +kernel, rfl⟩
theorem eX12_digitsOf_97 : vD cX12_digitsOf 97 .iand 1 98 := ⟨by decide +kernel, rfl⟩
theorem eX12_digitsOf_98 : vD cX12_digitsOf 98 .iastore 1 99 := ⟨by decide +kernel, rfl⟩
theorem eX12_digitsOf_99 : vD cX12_digitsOf 99 (.aload_n 0) 1 100 := ⟨by decide +kernel, rfl⟩
theorem eX12_digitsOf_100 : vD cX12_digitsOf 100 (.getfield 105) 3 103 := ⟨by decide +kernel, rfl⟩
theorem eX12_digitsOf_103 : vD cX12_digitsOf 103 (.iconst 2) 1 104 := ⟨by decide +kernel, rfl⟩
theorem eX12_digitsOf_104 : vD cX12_digitsOf 104 (.aload_n 0) 1 105 := ⟨by decide +kernel, rfl⟩
theorem eX12_digitsOf_105 : vD cX12_digitsOf 105 (.getfield 243) 3 108 := ⟨by decide +kernel, rfl⟩
theorem eX12_digitsOf_108 : vD cX12_digitsOf 108 .imul 1 109 := ⟨by decide +kernel, rfl⟩
theorem eX12_digitsOf_109 : vD cX12_digitsOf 109 (.iconst 1) 1 110 := ⟨by decide +kernel, rfl⟩
theorem eX12_digitsOf_110 : vD cX12_digitsOf 110 .iadd 1 111 := ⟨by decide +kernel, rfl⟩
theorem eX12_digitsOf_111 : vD cX12_digitsOf 111 (.iload_n 3) 1 112 := ⟨by decide +kernel, rfl⟩
theorem eX12_digitsOf_112 : vD cX12_digitsOf 112 (.bipush 8) 2 114 := ⟨by decide +kernel, rfl⟩
theorem eX12_digitsOf_114 : vD cX12_digitsOf 114 .ishr 1 115 := ⟨by decide +kernel, rfl⟩
theorem eX12_digitsOf_115 : vD cX12_digitsOf 115 (.bipush 15) 2 117 := ⟨by decide +kernel, rfl⟩
theorem eX12_digitsOf_117 : vD cX12_digitsOf 117 .iand 1 118 := ⟨by decide +kernel, rfl⟩
theorem eX12_digitsOf_118 : vD cX12_digitsOf 118 .iastore 1 119 := ⟨by decide +kernel, rfl⟩
theorem eX12_digitsOf_119 : vD cX12_digitsOf 119 (.aload_n 0) 1 120 := ⟨by decide +kernel, rfl⟩
theorem eX12_digitsOf_120 : vD cX12_digitsOf 120 (.getfield 105) 3 123 := ⟨by decide +kernel, rfl⟩
theorem eX12_digitsOf_123 : vD cX12_digitsOf 123 (.iconst 2) 1 124 := ⟨by decide +kernel, rfl⟩
theorem eX12_digitsOf_124 : vD cX12_digitsOf 124 (.aload_n 0) 1 125 := ⟨by decide +kernel, rfl⟩
theorem eX12_digitsOf_125 : vD cX12_digitsOf 125 (.getfield 243) 3 128 := ⟨by decide +kernel, rfl⟩
theorem eX12_digitsOf_128 : vD cX12_digitsOf 128 .imul 1 129 := ⟨by decide +kernel, rfl⟩
theorem eX12_digitsOf_129 : vD cX12_digitsOf 129 (.iconst 2) 1 130 := ⟨by decide +kernel, rfl⟩
theorem eX12_digitsOf_130 : vD cX12_digitsOf 130 .iadd 1 131 := ⟨by decide +kernel, rfl⟩
theorem eX12_digitsOf_131 : vD cX12_digitsOf 131 (.iload_n 3) 1 132 := ⟨by decide +kernel, rfl⟩
theorem eX12_digitsOf_132 : vD cX12_digitsOf 132 (.iconst 4) 1 133 := ⟨by decide +kernel, rfl⟩
theorem eX12_digitsOf_133 : vD cX12_digitsOf 133 .ishr 1 134 := ⟨by decide +kernel, rfl⟩
theorem eX12_digitsOf_134 : vD cX12_digitsOf 134 (.bipush 15) 2 136 := ⟨by decide +kernel, rfl⟩
theorem eX12_digitsOf_136 : vD cX12_digitsOf 136 .iand 1 137 := ⟨by decide +kernel, rfl⟩
theorem eX12_digitsOf_137 : vD cX12_digitsOf 137 .iastore 1 138 := ⟨by decide +kernel, rfl⟩
theorem eX12_digitsOf_138 : vD cX12_digitsOf 138 .return_ 1 139 := ⟨by decide +kernel, rfl⟩
theorem eX12_signTree_0 : vD cX12_signTree 0 (.aload_n 0) 1 1 := ⟨by decide +kernel, rfl⟩
theorem eX12_signTree_1 : vD cX12_signTree 1 (.aload_n 1) 1 2 := ⟨by decide +kernel, rfl⟩
theorem eX12_signTree_2 : vD cX12_signTree 2 (.iload_n 2) 1 3 := ⟨by decide +kernel, rfl⟩
theorem eX12_signTree_3 : vD cX12_signTree 3 (.invokevirtual 292) 3 6 := ⟨by decide +kernel, rfl⟩
theorem eX12_signTree_6 : vD cX12_signTree 6 (.iconst 0) 1 7 := ⟨by decide +kernel, rfl⟩
theorem eX12_signTree_7 : vD cX12_signTree 7 (.istore 6) 2 9 := ⟨by decide +kernel, rfl⟩
theorem eX12_signTree_9 : vD cX12_signTree 9 (.iload 6) 2 11 := ⟨by decide +kernel, rfl⟩
theorem eX12_signTree_11 : vD cX12_signTree 11 (.aload_n 0) 1 12 := ⟨by decide +kernel, rfl⟩
theorem eX12_signTree_12 : vD cX12_signTree 12 (.getfield 261) 3 15 := ⟨by decide +kernel, rfl⟩
theorem eX12_signTree_15 : vD cX12_signTree 15 (.if_icmp .ge 61) 3 18 := ⟨by decide +kernel, rfl⟩
theorem eX12_signTree_18 : vD cX12_signTree 18 (.aload_n 0) 1 19 := ⟨by decide +kernel, rfl⟩
theorem eX12_signTree_19 : vD cX12_signTree 19 (.iconst 5) 1 20 := ⟨by decide +kernel, rfl⟩
theorem eX12_signTree_20 : vD cX12_signTree 20 (.iload_n 3) 1 21 := ⟨by decide +kernel, rfl⟩
theorem eX12_signTree_21 : vD cX12_signTree 21 (.iload 6) 2 23 := ⟨by decide +kernel, rfl⟩
theorem eX12_signTree_23 : vD cX12_signTree 23 (.iconst 0) 1 24 := ⟨by decide +kernel, rfl⟩
theorem eX12_signTree_24 : vD cX12_signTree 24 (.invokevirtual 272) 3 27 := ⟨by decide +kernel, rfl⟩
theorem eX12_signTree_27 : vD cX12_signTree 27 (.aload_n 0) 1 28 := ⟨by decide +kernel, rfl⟩
theorem eX12_signTree_28 : vD cX12_signTree 28 (.aload 4) 2 30 := ⟨by decide +kernel, rfl⟩
theorem eX12_signTree_30 : vD cX12_signTree 30 (.iload 5) 2 32 := ⟨by decide +kernel, rfl⟩
theorem eX12_signTree_32 : vD cX12_signTree 32 (.iload 6) 2 34 := ⟨by decide +kernel, rfl⟩
theorem eX12_signTree_34 : vD cX12_signTree 34 (.aload_n 0) 1 35 := ⟨by decide +kernel, rfl⟩
theorem eX12_signTree_35 : vD cX12_signTree 35 (.getfield 243) 3 38 := ⟨by decide +kernel, rfl⟩
theorem eX12_signTree_38 : vD cX12_signTree 38 .imul 1 39 := ⟨by decide +kernel, rfl⟩
theorem eX12_signTree_39 : vD cX12_signTree 39 .iadd 1 40 := ⟨by decide +kernel, rfl⟩
theorem eX12_signTree_40 : vD cX12_signTree 40 (.invokevirtual 276) 3 43 := ⟨by decide +kernel, rfl⟩
theorem eX12_signTree_43 : vD cX12_signTree 43 (.aload_n 0) 1 44 := ⟨by decide +kernel, rfl⟩
theorem eX12_signTree_44 : vD cX12_signTree 44 (.iload_n 3) 1 45 := ⟨by decide +kernel, rfl⟩
theorem eX12_signTree_45 : vD cX12_signTree 45 (.iload 6) 2 47 := ⟨by decide +kernel, rfl⟩
theorem eX12_signTree_47 : vD cX12_signTree 47 (.iconst 0) 1 48 := ⟨by decide +kernel, rfl⟩
theorem eX12_signTree_48 : vD cX12_signTree 48 (.aload_n 0) 1 49 := ⟨by decide +kernel, rfl⟩
theorem eX12_signTree_49 : vD cX12_signTree 49 (.getfield 105) 3 52 := ⟨by decide +kernel, rfl⟩
theorem eX12_signTree_52 : vD cX12_signTree 52 (.iload 6) 2 54 := ⟨by decide +kernel, rfl⟩
theorem eX12_signTree_54 : vD cX12_signTree 54 .iaload 1 55 := ⟨by decide +kernel, rfl⟩
theorem eX12_signTree_55 : vD cX12_signTree 55 (.aload 4) 2 57 := ⟨by decide +kernel, rfl⟩
theorem eX12_signTree_57 : vD cX12_signTree 57 (.iload 5) 2 59 := ⟨by decide +kernel, rfl⟩
theorem eX12_signTree_59 : vD cX12_signTree 59 (.iload 6) 2 61 := ⟨by decide +kernel, rfl⟩
theorem eX12_signTree_61 : vD cX12_signTree 61 (.aload_n 0) 1 62 := ⟨by decide +kernel, rfl⟩
theorem eX12_signTree_62 : vD cX12_signTree 62 (.getfield 243) 3 65 := ⟨by decide +kernel, rfl⟩
theorem eX12_signTree_65 : vD cX12_signTree 65 .imul 1 66 := ⟨by decide +kernel, rfl⟩
theorem eX12_signTree_66 : vD cX12_signTree 66 .iadd 1 67 := ⟨by decide +kernel, rfl⟩
theorem eX12_signTree_67 : vD cX12_signTree 67 (.invokevirtual 280) 3 70 := ⟨by decide +kernel, rfl⟩
theorem eX12_signTree_70 : vD cX12_signTree 70 (.iinc 6 1) 3 73 := ⟨by decide +kernel, rfl⟩
theorem eX12_signTree_73 : vD cX12_signTree 73 (.goto (-64)) 3 76 := ⟨by decide +kernel, rfl⟩
theorem eX12_signTree_76 : vD cX12_signTree 76 (.iconst 0) 1 77 := ⟨by decide +kernel, rfl⟩
theorem eX12_signTree_77 : vD cX12_signTree 77 (.istore 6) 2 79 := ⟨by decide +kernel, rfl⟩
theorem eX12_signTree_79 : vD cX12_signTree 79 (.iload 6) 2 81 := ⟨by decide +kernel, rfl⟩
theorem eX12_signTree_81 : vD cX12_signTree 81 (.aload_n 0) 1 82 := ⟨by decide +kernel, rfl⟩
theorem eX12_signTree_82 : vD cX12_signTree 82 (.getfield 258) 3 85 := ⟨by decide +kernel, rfl⟩
theorem eX12_signTree_85 : vD cX12_signTree 85 (.if_icmp .ge 38) 3 88 := ⟨by decide +kernel, rfl⟩
theorem eX12_signTree_88 : vD cX12_signTree 88 (.aload_n 0) 1 89 := ⟨by decide +kernel, rfl⟩
theorem eX12_signTree_89 : vD cX12_signTree 89 (.iload 6) 2 91 := ⟨by decide +kernel, rfl⟩
theorem eX12_signTree_91 : vD cX12_signTree 91 (.iload_n 3) 1 92 := ⟨by decide +kernel, rfl⟩
theorem eX12_signTree_92 : vD cX12_signTree 92 (.iload 6) 2 94 := ⟨by decide +kernel, rfl⟩
theorem eX12_signTree_94 : vD cX12_signTree 94 .ishr 1 95 := ⟨by decide +kernel, rfl⟩
theorem eX12_signTree_95 : vD cX12_signTree 95 (.iconst 1) 1 96 := ⟨by decide +kernel, rfl⟩
theorem eX12_signTree_96 : vD cX12_signTree 96 .ixor 1 97 := ⟨by decide +kernel, rfl⟩
theorem eX12_signTree_97 : vD cX12_signTree 97 (.aload 4) 2 99 := ⟨by decide +kernel, rfl⟩
theorem eX12_signTree_99 : vD cX12_signTree 99 (.iload 5) 2 101 := ⟨by decide +kernel, rfl⟩
theorem eX12_signTree_101 : vD cX12_signTree 101 (.aload_n 0) 1 102 := ⟨by decide +kernel, rfl⟩
theorem eX12_signTree_102 : vD cX12_signTree 102 (.getfield 261) 3 105 := ⟨by decide +kernel, rfl⟩
theorem eX12_signTree_105 : vD cX12_signTree 105 (.iload 6) 2 107 := ⟨by decide +kernel, rfl⟩
theorem eX12_signTree_107 : vD cX12_signTree 107 .iadd 1 108 := ⟨by decide +kernel, rfl⟩
theorem eX12_signTree_108 : vD cX12_signTree 108 (.aload_n 0) 1 109 := ⟨by decide +kernel, rfl⟩
theorem eX12_signTree_109 : vD cX12_signTree 109 (.getfield 243) 3 112 := ⟨by decide +kernel, rfl⟩
theorem eX12_signTree_112 : vD cX12_signTree 112 .imul 1 113 := ⟨by decide +kernel, rfl⟩
theorem eX12_signTree_113 : vD cX12_signTree 113 .iadd 1 114 := ⟨by decide +kernel, rfl⟩
theorem eX12_signTree_114 : vD cX12_signTree 114 (.invokevirtual 288) 3 117 := ⟨by decide +kernel, rfl⟩
theorem eX12_signTree_117 : vD cX12_signTree 117 (.iinc 6 1) 3 120 := ⟨by decide +kernel, rfl⟩
theorem eX12_signTree_120 : vD cX12_signTree 120 (.goto (-41)) 3 123 := ⟨by decide +kernel, rfl⟩
theorem eX12_signTree_123 : vD cX12_signTree 123 .return_ 1 124 := ⟨by decide +kernel, rfl⟩
theorem eX12_climb_0 : vD cX12_climb 0 (.iconst 0) 1 1 := ⟨by decide +kernel, rfl⟩
theorem eX12_climb_1 : vD cX12_climb 1 (.istore 7) 2 3 := ⟨by decide +kernel, rfl⟩
theorem eX12_climb_3 : vD cX12_climb 3 (.iload 7) 2 5 := ⟨by decide +kernel, rfl⟩
theorem eX12_climb_5 : vD cX12_climb 5 (.iload 4) 2 7 := ⟨by decide +kernel, rfl⟩
theorem eX12_climb_7 : vD cX12_climb 7 (.if_icmp .ge 126) 3 10 := ⟨by decide +kernel, rfl⟩
theorem eX12_climb_10 : vD cX12_climb 10 (.iload_n 3) 1 11 := ⟨by decide +kernel, rfl⟩
theorem eX12_climb_11 : vD cX12_climb 11 (.iload 7) 2 13 := ⟨by decide +kernel, rfl⟩
theorem eX12_climb_13 : vD cX12_climb 13 .ishr 1 14 := ⟨by decide +kernel, rfl⟩
theorem eX12_climb_14 : vD cX12_climb 14 (.iconst 2) 1 15 := ⟨by decide +kernel, rfl⟩
theorem eX12_climb_15 : vD cX12_climb 15 .irem 1 16 := ⟨by decide +kernel, rfl⟩
theorem eX12_climb_16 : vD cX12_climb 16 (.ifCond .ne 7) 3 19 := ⟨by decide +kernel, rfl⟩
theorem eX12_climb_19 : vD cX12_climb 19 (.iconst 1) 1 20 := ⟨by decide +kernel, rfl⟩
theorem eX12_climb_20 : vD cX12_climb 20 (.goto 4) 3 23 := ⟨by decide +kernel, rfl⟩
theorem eX12_climb_23 : vD cX12_climb 23 (.iconst 0) 1 24 := ⟨by decide +kernel, rfl⟩
theorem eX12_climb_24 : vD cX12_climb 24 (.istore 8) 2 26 := ⟨by decide +kernel, rfl⟩
theorem eX12_climb_26 : vD cX12_climb 26 (.aload_n 0) 1 27 := ⟨by decide +kernel, rfl⟩
theorem eX12_climb_27 : vD cX12_climb 27 (.getfield 96) 3 30 := ⟨by decide +kernel, rfl⟩
theorem eX12_climb_30 : vD cX12_climb 30 (.iconst 0) 1 31 := ⟨by decide +kernel, rfl⟩
theorem eX12_climb_31 : vD cX12_climb 31 (.aload_n 0) 1 32 := ⟨by decide +kernel, rfl⟩
theorem eX12_climb_32 : vD cX12_climb 32 (.getfield 99) 3 35 := ⟨by decide +kernel, rfl⟩
theorem eX12_climb_35 : vD cX12_climb 35 (.iload 8) 2 37 := ⟨by decide +kernel, rfl⟩
theorem eX12_climb_37 : vD cX12_climb 37 (.ifCond .eq 7) 3 40 := ⟨by decide +kernel, rfl⟩
theorem eX12_climb_40 : vD cX12_climb 40 (.iconst 0) 1 41 := ⟨by decide +kernel, rfl⟩
theorem eX12_climb_41 : vD cX12_climb 41 (.goto 7) 3 44 := ⟨by decide +kernel, rfl⟩
theorem eX12_climb_44 : vD cX12_climb 44 (.aload_n 0) 1 45 := ⟨by decide +kernel, rfl⟩
theorem eX12_climb_45 : vD cX12_climb 45 (.getfield 243) 3 48 := ⟨by decide +kernel, rfl⟩
theorem eX12_climb_48 : vD cX12_climb 48 (.aload_n 0) 1 49 := ⟨by decide +kernel, rfl⟩
theorem eX12_climb_49 : vD cX12_climb 49 (.getfield 243) 3 52 := ⟨by decide +kernel, rfl⟩
theorem eX12_climb_52 : vD cX12_climb 52 (.invokestatic 239) 3 55 := ⟨by decide +kernel, rfl⟩
theorem eX12_climb_55 : vD cX12_climb 55 (.aload 5) 2 57 := ⟨by decide +kernel, rfl⟩
theorem eX12_climb_57 : vD cX12_climb 57 (.iload 6) 2 59 := ⟨by decide +kernel, rfl⟩
theorem eX12_climb_59 : vD cX12_climb 59 (.iload 7) 2 61 := ⟨by decide +kernel, rfl⟩
theorem eX12_climb_61 : vD cX12_climb 61 (.aload_n 0) 1 62 := ⟨by decide +kernel, rfl⟩
theorem eX12_climb_62 : vD cX12_climb 62 (.getfield 243) 3 65 := ⟨by decide +kernel, rfl⟩
theorem eX12_climb_65 : vD cX12_climb 65 .imul 1 66 := ⟨by decide +kernel, rfl⟩
theorem eX12_climb_66 : vD cX12_climb 66 .iadd 1 67 := ⟨by decide +kernel, rfl⟩
theorem eX12_climb_67 : vD cX12_climb 67 (.aload_n 0) 1 68 := ⟨by decide +kernel, rfl⟩
theorem eX12_climb_68 : vD cX12_climb 68 (.getfield 99) 3 71 := ⟨by decide +kernel, rfl⟩
theorem eX12_climb_71 : vD cX12_climb 71 (.iload 8) 2 73 := ⟨by decide +kernel, rfl⟩
theorem eX12_climb_73 : vD cX12_climb 73 (.ifCond .eq 10) 3 76 := ⟨by decide +kernel, rfl⟩
theorem eX12_climb_76 : vD cX12_climb 76 (.aload_n 0) 1 77 := ⟨by decide +kernel, rfl⟩
theorem eX12_climb_77 : vD cX12_climb 77 (.getfield 243) 3 80 := ⟨by decide +kernel, rfl⟩
theorem eX12_climb_80 : vD cX12_climb 80 (.goto 4) 3 83 := ⟨by decide +kernel, rfl⟩
theorem eX12_climb_83 : vD cX12_climb 83 (.iconst 0) 1 84 := ⟨by decide +kernel, rfl⟩
theorem eX12_climb_84 : vD cX12_climb 84 (.aload_n 0) 1 85 := ⟨by decide +kernel, rfl⟩
theorem eX12_climb_85 : vD cX12_climb 85 (.getfield 243) 3 88 := ⟨by decide +kernel, rfl⟩
theorem eX12_climb_88 : vD cX12_climb 88 (.invokestatic 239) 3 91 := ⟨by decide +kernel, rfl⟩
theorem eX12_climb_91 : vD cX12_climb 91 (.aload_n 0) 1 92 := ⟨by decide +kernel, rfl⟩
theorem eX12_climb_92 : vD cX12_climb 92 (.iload_n 1) 1 93 := ⟨by decide +kernel, rfl⟩
theorem eX12_climb_93 : vD cX12_climb 93 (.iload_n 2) 1 94 := ⟨by decide +kernel, rfl⟩
theorem eX12_climb_94 : vD cX12_climb 94 (.iload 7) 2 96 := ⟨by decide +kernel, rfl⟩
theorem eX12_climb_96 : vD cX12_climb 96 (.iconst 1) 1 97 := ⟨by decide +kernel, rfl⟩
theorem eX12_climb_97 : vD cX12_climb 97 .iadd 1 98 := ⟨by decide +kernel, rfl⟩
theorem eX12_climb_98 : vD cX12_climb 98 (.iload_n 3) 1 99 := ⟨by decide +kernel, rfl⟩
theorem eX12_climb_99 : vD cX12_climb 99 (.iload 7) 2 101 := ⟨by decide +kernel, rfl⟩
theorem eX12_climb_101 : vD cX12_climb 101 (.iconst 1) 1 102 := ⟨by decide +kernel, rfl⟩
theorem eX12_climb_102 : vD cX12_climb 102 .iadd 1 103 := ⟨by decide +kernel, rfl⟩
theorem eX12_climb_103 : vD cX12_climb 103 .ishr 1 104 := ⟨by decide +kernel, rfl⟩
theorem eX12_climb_104 : vD cX12_climb 104 (.invokevirtual 272) 3 107 := ⟨by decide +kernel, rfl⟩
theorem eX12_climb_107 : vD cX12_climb 107 (.aload_n 0) 1 108 := ⟨by decide +kernel, rfl⟩
theorem eX12_climb_108 : vD cX12_climb 108 (.aload_n 0) 1 109 := ⟨by decide +kernel, rfl⟩
theorem eX12_climb_109 : vD cX12_climb 109 (.getfield 99) 3 112 := ⟨by decide +kernel, rfl⟩
theorem eX12_climb_112 : vD cX12_climb 112 (.iconst 0) 1 113 := ⟨by decide +kernel, rfl⟩
theorem eX12_climb_113 : vD cX12_climb 113 (.iconst 2) 1 114 := ⟨by decide +kernel, rfl⟩
theorem eX12_climb_114 : vD cX12_climb 114 (.aload_n 0) 1 115 := ⟨by decide +kernel, rfl⟩
theorem eX12_climb_115 : vD cX12_climb 115 (.getfield 243) 3 118 := ⟨by decide +kernel, rfl⟩
theorem eX12_climb_118 : vD cX12_climb 118 .imul 1 119 := ⟨by decide +kernel, rfl⟩
theorem eX12_climb_119 : vD cX12_climb 119 (.aload_n 0) 1 120 := ⟨by decide +kernel, rfl⟩
theorem eX12_climb_120 : vD cX12_climb 120 (.getfield 96) 3 123 := ⟨by decide +kernel, rfl⟩
theorem eX12_climb_123 : vD cX12_climb 123 (.iconst 0) 1 124 := ⟨by decide +kernel, rfl⟩
theorem eX12_climb_124 : vD cX12_climb 124 (.invokevirtual 268) 3 127 := ⟨by decide +kernel, rfl⟩
theorem eX12_climb_127 : vD cX12_climb 127 (.iinc 7 1) 3 130 := ⟨by decide +kernel, rfl⟩
theorem eX12_climb_130 : vD cX12_climb 130 (.goto (-127)) 3 133 := ⟨by decide +kernel, rfl⟩
theorem eX12_climb_133 : vD cX12_climb 133 .return_ 1 134 := ⟨by decide +kernel, rfl⟩
theorem eX12_rootOf_0 : vD cX12_rootOf 0 (.aload_n 0) 1 1 := ⟨by decide +kernel, rfl⟩
theorem eX12_rootOf_1 : vD cX12_rootOf 1 (.aload 4) 2 3 := ⟨by decide +kernel, rfl⟩
theorem eX12_rootOf_3 : vD cX12_rootOf 3 (.iload 5) 2 5 := ⟨by decide +kernel, rfl⟩
theorem eX12_rootOf_5 : vD cX12_rootOf 5 (.invokevirtual 292) 3 8 := ⟨by decide +kernel, rfl⟩
theorem eX12_rootOf_8 : vD cX12_rootOf 8 (.iconst 0) 1 9 := ⟨by decide +kernel, rfl⟩
theorem eX12_rootOf_9 : vD cX12_rootOf 9 (.istore 6) 2 11 := ⟨by decide +kernel, rfl⟩
theorem eX12_rootOf_11 : vD cX12_rootOf 11 (.iload 6) 2 13 := ⟨by decide +kernel, rfl⟩
theorem eX12_rootOf_13 : vD cX12_rootOf 13 (.aload_n 0) 1 14 := ⟨by decide +kernel, rfl⟩
theorem eX12_rootOf_14 : vD cX12_rootOf 14 (.getfield 261) 3 17 := ⟨by decide +kernel, rfl⟩
theorem eX12_rootOf_17 : vD cX12_rootOf 17 (.if_icmp .ge 72) 3 20 := ⟨by decide +kernel, rfl⟩
theorem eX12_rootOf_20 : vD cX12_rootOf 20 (.aload_n 2) 1 21 := ⟨by decide +kernel, rfl⟩
theorem eX12_rootOf_21 : vD cX12_rootOf 21 (.iload_n 3) 1 22 := ⟨by decide +kernel, rfl⟩
theorem eX12_rootOf_22 : vD cX12_rootOf 22 (.iload 6) 2 24 := ⟨by decide +kernel, rfl⟩
theorem eX12_rootOf_24 : vD cX12_rootOf 24 (.aload_n 0) 1 25 := ⟨by decide +kernel, rfl⟩
theorem eX12_rootOf_25 : vD cX12_rootOf 25 (.getfield 243) 3 28 := ⟨by decide +kernel, rfl⟩
theorem eX12_rootOf_28 : vD cX12_rootOf 28 .imul 1 29 := ⟨by decide +kernel, rfl⟩
theorem eX12_rootOf_29 : vD cX12_rootOf 29 .iadd 1 30 := ⟨by decide +kernel, rfl⟩
theorem eX12_rootOf_30 : vD cX12_rootOf 30 (.aload_n 0) 1 31 := ⟨by decide +kernel, rfl⟩
theorem eX12_rootOf_31 : vD cX12_rootOf 31 (.getfield 87) 3 34 := ⟨by decide +kernel, rfl⟩
theorem eX12_rootOf_34 : vD cX12_rootOf 34 (.iload 6) 2 36 := ⟨by decide +kernel, rfl⟩
theorem eX12_rootOf_36 : vD cX12_rootOf 36 (.aload_n 0) 1 37 := ⟨by decide +kernel, rfl⟩
theorem eX12_rootOf_37 : vD cX12_rootOf 37 (.getfield 243) 3 40 := ⟨by decide +kernel, rfl⟩
theorem eX12_rootOf_40 : vD cX12_rootOf 40 .imul 1 41 := ⟨by decide +kernel, rfl⟩
theorem eX12_rootOf_41 : vD cX12_rootOf 41 (.aload_n 0) 1 42 := ⟨by decide +kernel, rfl⟩
theorem eX12_rootOf_42 : vD cX12_rootOf 42 (.getfield 243) 3 45 := ⟨by decide +kernel, rfl⟩
theorem eX12_rootOf_45 : vD cX12_rootOf 45 (.invokestatic 239) 3 48 := ⟨by decide +kernel, rfl⟩
theorem eX12_rootOf_48 : vD cX12_rootOf 48 (.aload_n 0) 1 49 := ⟨by decide +kernel, rfl⟩
theorem eX12_rootOf_49 : vD cX12_rootOf 49 (.iload_n 1) 1 50 := ⟨by decide +kernel, rfl⟩
theorem eX12_rootOf_50 : vD cX12_rootOf 50 (.iload 6) 2 52 := ⟨by decide +kernel, rfl⟩
theorem eX12_rootOf_52 : vD cX12_rootOf 52 (.aload_n 0) 1 53 := ⟨by decide +kernel, rfl⟩
theorem eX12_rootOf_53 : vD cX12_rootOf 53 (.getfield 105) 3 56 := ⟨by decide +kernel, rfl⟩
theorem eX12_rootOf_56 : vD cX12_rootOf 56 (.iload 6) 2 58 := ⟨by decide +kernel, rfl⟩
theorem eX12_rootOf_58 : vD cX12_rootOf 58 .iaload 1 59 := ⟨by decide +kernel, rfl⟩
theorem eX12_rootOf_59 : vD cX12_rootOf 59 (.bipush 15) 2 61 := ⟨by decide +kernel, rfl⟩
theorem eX12_rootOf_61 : vD cX12_rootOf 61 (.aload_n 0) 1 62 := ⟨by decide +kernel, rfl⟩
theorem eX12_rootOf_62 : vD cX12_rootOf 62 (.getfield 105) 3 65 := ⟨by decide +kernel, rfl⟩
theorem eX12_rootOf_65 : vD cX12_rootOf 65 (.iload 6) 2 67 := ⟨by decide +kernel, rfl⟩
theorem eX12_rootOf_67 : vD cX12_rootOf 67 .iaload 1 68 := ⟨by decide +kernel, rfl⟩
theorem eX12_rootOf_68 : vD cX12_rootOf 68 .isub 1 69 := ⟨by decide +kernel, rfl⟩
theorem eX12_rootOf_69 : vD cX12_rootOf 69 (.aload_n 0) 1 70 := ⟨by decide +kernel, rfl⟩
theorem eX12_rootOf_70 : vD cX12_rootOf 70 (.getfield 87) 3 73 := ⟨by decide +kernel, rfl⟩
theorem eX12_rootOf_73 : vD cX12_rootOf 73 (.iload 6) 2 75 := ⟨by decide +kernel, rfl⟩
theorem eX12_rootOf_75 : vD cX12_rootOf 75 (.aload_n 0) 1 76 := ⟨by decide +kernel, rfl⟩
theorem eX12_rootOf_76 : vD cX12_rootOf 76 (.getfield 243) 3 79 := ⟨by decide +kernel, rfl⟩
theorem eX12_rootOf_79 : vD cX12_rootOf 79 .imul 1 80 := ⟨by decide +kernel, rfl⟩
theorem eX12_rootOf_80 : vD cX12_rootOf 80 (.invokevirtual 280) 3 83 := ⟨by decide +kernel, rfl⟩
theorem eX12_rootOf_83 : vD cX12_rootOf 83 (.iinc 6 1) 3 86 := ⟨by decide +kernel, rfl⟩
theorem eX12_rootOf_86 : vD cX12_rootOf 86 (.goto (-75)) 3 89 := ⟨by decide +kernel, rfl⟩
theorem eX12_rootOf_89 : vD cX12_rootOf 89 (.aload_n 0) 1 90 := ⟨by decide +kernel, rfl⟩
theorem eX12_rootOf_90 : vD cX12_rootOf 90 (.iconst 1) 1 91 := ⟨by decide +kernel, rfl⟩
theorem eX12_rootOf_91 : vD cX12_rootOf 91 (.iload_n 1) 1 92 := ⟨by decide +kernel, rfl⟩
theorem eX12_rootOf_92 : vD cX12_rootOf 92 (.iconst 0) 1 93 := ⟨by decide +kernel, rfl⟩
theorem eX12_rootOf_93 : vD cX12_rootOf 93 (.iconst 0) 1 94 := ⟨by decide +kernel, rfl⟩
theorem eX12_rootOf_94 : vD cX12_rootOf 94 (.invokevirtual 272) 3 97 := ⟨by decide +kernel, rfl⟩
theorem eX12_rootOf_97 : vD cX12_rootOf 97 (.aload_n 0) 1 98 := ⟨by decide +kernel, rfl⟩
theorem eX12_rootOf_98 : vD cX12_rootOf 98 (.aload_n 0) 1 99 := ⟨by decide +kernel, rfl⟩
theorem eX12_rootOf_99 : vD cX12_rootOf 99 (.getfield 87) 3 102 := ⟨by decide +kernel, rfl⟩
theorem eX12_rootOf_102 : vD cX12_rootOf 102 (.iconst 0) 1 103 := ⟨by decide +kernel, rfl⟩
theorem eX12_rootOf_103 : vD cX12_rootOf 103 (.aload_n 0) 1 104 := ⟨by decide +kernel, rfl⟩
theorem eX12_rootOf_104 : vD cX12_rootOf 104 (.getfield 261) 3 107 := ⟨by decide +kernel, rfl⟩
theorem eX12_rootOf_107 : vD cX12_rootOf 107 (.aload_n 0) 1 108 := ⟨by decide +kernel, rfl⟩
theorem eX12_rootOf_108 : vD cX12_rootOf 108 (.getfield 243) 3 111 := ⟨by decide +kernel, rfl⟩
theorem eX12_rootOf_111 : vD cX12_rootOf 111 .imul 1 112 := ⟨by decide +kernel, rfl⟩
theorem eX12_rootOf_112 : vD cX12_rootOf 112 (.aload_n 0) 1 113 := ⟨by decide +kernel, rfl⟩
theorem eX12_rootOf_113 : vD cX12_rootOf 113 (.getfield 96) 3 116 := ⟨by decide +kernel, rfl⟩
theorem eX12_rootOf_116 : vD cX12_rootOf 116 (.iconst 0) 1 117 := ⟨by decide +kernel, rfl⟩
theorem eX12_rootOf_117 : vD cX12_rootOf 117 (.invokevirtual 268) 3 120 := ⟨by decide +kernel, rfl⟩
theorem eX12_rootOf_120 : vD cX12_rootOf 120 (.aload_n 0) 1 121 := ⟨by decide +kernel, rfl⟩
theorem eX12_rootOf_121 : vD cX12_rootOf 121 (.iconst 2) 1 122 := ⟨by decide +kernel, rfl⟩
theorem eX12_rootOf_122 : vD cX12_rootOf 122 (.iconst 0) 1 123 := ⟨by decide +kernel, rfl⟩
theorem eX12_rootOf_123 : vD cX12_rootOf 123 (.iload_n 1) 1 124 := ⟨by decide +kernel, rfl⟩
theorem eX12_rootOf_124 : vD cX12_rootOf 124 (.aload_n 0) 1 125 := ⟨by decide +kernel, rfl⟩
theorem eX12_rootOf_125 : vD cX12_rootOf 125 (.getfield 258) 3 128 := ⟨by decide +kernel, rfl⟩
theorem eX12_rootOf_128 : vD cX12_rootOf 128 (.aload_n 2) 1 129 := ⟨by decide +kernel, rfl⟩
theorem eX12_rootOf_129 : vD cX12_rootOf 129 (.iload_n 3) 1 130 := ⟨by decide +kernel, rfl⟩
theorem eX12_rootOf_130 : vD cX12_rootOf 130 (.aload_n 0) 1 131 := ⟨by decide +kernel, rfl⟩
theorem eX12_rootOf_131 : vD cX12_rootOf 131 (.getfield 261) 3 134 := ⟨by decide +kernel, rfl⟩
theorem eX12_rootOf_134 : vD cX12_rootOf 134 (.aload_n 0) 1 135 := ⟨by decide +kernel, rfl⟩
theorem eX12_rootOf_135 : vD cX12_rootOf 135 (.getfield 243) 3 138 := ⟨by decide +kernel, rfl⟩
theorem eX12_rootOf_138 : vD cX12_rootOf 138 .imul 1 139 := ⟨by decide +kernel, rfl⟩
theorem eX12_rootOf_139 : vD cX12_rootOf 139 .iadd 1 140 := ⟨by decide +kernel, rfl⟩
theorem eX12_rootOf_140 : vD cX12_rootOf 140 (.invokevirtual 295) 3 143 := ⟨by decide +kernel, rfl⟩
theorem eX12_rootOf_143 : vD cX12_rootOf 143 .return_ 1 144 := ⟨by decide +kernel, rfl⟩

section M21
variable {G : vG} {B : Nat} {l : Launch} {ad : Nat → Nat} {N : Nat} {θ : tT} {x : Nat → Int32} {σ : nS} {sh : Bool} {nn : Nat} {P H K : List Int32}
set_option maxRecDepth 100000 in
set_option maxHeartbeats 4000000 in
theorem rc_digitsOf (I : nI1 ad N) (hN : ∀ k, k < 74 → k < N) (hC : RC G ad θ x sh nn P H K σ) {kx nx : Nat} (hkx : rLn kx = nx) (hx0 : 0 < nx) (a : Nat) (ha : a + nn ≤ nx) : nOk G B l ad N yX12_digitsOf cX12_digitsOf 5 none 1 0 0 [.ref (ad 49), .ref (ad kx), .int (nI a)] σ (fun r σ' => r = none ∧ RC G ad θ x sh nn P H K σ' ∧ (∀ k, ¬ (k = 36) → σ' k = σ k) ∧ ∀ i, i < 2 * nn + 3 → bt σ' 36 i = nI (digL nn (sl (bt σ kx) a nn) i)) := by
  refine vOk.of (by decide +kernel) (Nat.le_of_ble_eq_true rfl) ?_
  intro p e s m args below meth c C
  refine v_eq (lv' := [(0, .ref (ad 49)), (1, .ref (ad kx)), (2, .int (nI a))]) rfl rfl rfl ?_
  have hn := hC.qnn
  have hx31 : nx < 2 ^ 31 := hkx ▸ rLn_31 (k := kx) (by omega)
  have hkx36 : ¬ kx = 36 := fun q => rLn_off (k := kx) (by omega) (by rw [q]; decide)
  have hd : ∀ q, q = sl (bt σ kx) a nn → q = sl (bt σ kx) a nn := fun _ h => h
  refine v_iconst (v := nI 0) C eX12_digitsOf_0 (by decide) ?_
  refine v_istore_n (lv' := [(0, .ref (ad 49)), (1, .ref (ad kx)), (2, .int (nI a)), (3, .int (nI 0))]) C eX12_digitsOf_1 rfl (by decide) [1, 2, 3, 0] rfl ?_
  refine v_iconst (v := nI 0) C eX12_digitsOf_2 (by decide) ?_
  refine v_istore (lv' := [(0, .ref (ad 49)), (1, .ref (ad kx)), (2, .int (nI a)), (3, .int (nI 0)), (4, .int (nI 0))]) C eX12_digitsOf_3 (by decide) [1, 2, 3, 4, 0] rfl ?_
  refine v_forP (fun j τ => RC G ad θ x sh nn P H K τ ∧ (∀ k, ¬ (k = 36) → τ k = σ k) ∧ ∀ i, i < j → bt τ 36 i = nI (dgt (sl (bt σ kx) a nn) i)) (fun j => [(0, .ref (ad 49)), (1, .ref (ad kx)), (2, .int (nI a)), (3, .int (nI (ckN (sl (bt σ kx) a nn) j))), (4, .int (nI j))]) (2 * nn) ?_ ?_ _ ⟨hC, fun k _ => rfl, fun i hi => absurd hi (Nat.not_lt_zero i)⟩
  · intro τ hI
    obtain ⟨hC1, hk1, hv1⟩ := hI
    have hck := ckN_le (sl (bt σ kx) a nn) (2 * nn)
    refine v_iload C eX12_digitsOf_5 4 rfl ?_
    refine v_iconst (v := (2 : Int32)) C eX12_digitsOf_7 (by decide) ?_
    refine v_aload_n C eX12_digitsOf_8 rfl 0 rfl ?_
    refine n_get C I fX12_243_X12 eX12_digitsOf_9 (hN 49 (by decide)) hC1.s.obj rfl ?_
    refine v_imul C eX12_digitsOf_12 ?_
    refine v_icmp_ge (tgt := 76) C eX12_digitsOf_13 (by decide) (fun _ => ?_) (fun h => absurd (ix_le (a := 2 * nn) (b := 2 * nn) (ix_mul (a := 2) (b := nn) (rfl : (2 : Int32) = nI 2) hC1.n) (rfl : nI (2 * nn) = nI (2 * nn)) (by omega) (by omega) (by omega)) h)
    refine v_iload_n C eX12_digitsOf_76 rfl 3 rfl ?_
    refine v_bipush (v := (16 : Int32)) C eX12_digitsOf_77 (by decide) ?_
    refine v_imul C eX12_digitsOf_79 ?_
    refine v_natT (show (nI (ckN (sl (bt σ kx) a nn) (2 * nn))) * ((16 : Int32)) = nI ((ckN (sl (bt σ kx) a nn) (2 * nn)) * 16) from (ix_mul (a := ckN (sl (bt σ kx) a nn) (2 * nn)) (b := 16) (rfl : nI (ckN (sl (bt σ kx) a nn) (2 * nn)) = nI (ckN (sl (bt σ kx) a nn) (2 * nn))) (rfl : (16 : Int32) = nI 16))) ?_
    refine v_istore_n (lv' := [(0, .ref (ad 49)), (1, .ref (ad kx)), (2, .int (nI a)), (3, .int (nI ((ckN (sl (bt σ kx) a nn) (2 * nn)) * 16))), (4, .int (nI (2 * nn)))]) C eX12_digitsOf_80 rfl (by decide) [1, 2, 3, 0, 4] rfl ?_
    refine v_aload_n C eX12_digitsOf_81 rfl 0 rfl ?_
    refine n_get C I fX12_105_X12 eX12_digitsOf_82 (hN 49 (by decide)) hC1.s.obj rfl ?_
    refine v_iconst (v := (2 : Int32)) C eX12_digitsOf_85 (by decide) ?_
    refine v_aload_n C eX12_digitsOf_86 rfl 0 rfl ?_
    refine n_get C I fX12_243_X12 eX12_digitsOf_87 (hN 49 (by decide)) hC1.s.obj rfl ?_
    refine v_imul C eX12_digitsOf_90 ?_
    refine v_iload_n C eX12_digitsOf_91 rfl 3 rfl ?_
    refine v_bipush (v := (12 : Int32)) C eX12_digitsOf_92 (by decide) ?_
    refine v_ishr C eX12_digitsOf_94 ?_
    refine v_bipush (v := (15 : Int32)) C eX12_digitsOf_95 (by decide) ?_
    refine v_iand C eX12_digitsOf_97 ?_
    refine n_iast C I eX12_digitsOf_98 (hN 36 (by decide)) hC1.s.dig (2 * nn) (ix_mul (a := 2) (b := nn) (rfl : (2 : Int32) = nI 2) hC1.n) (by omega) (by decide) ?_
    have h5 := (n_ne hkx36 (e := eI G 67 (upd (bt τ 36) (2 * nn) (((nI ((ckN (sl (bt σ kx) a nn) (2 * nn)) * 16)) >>> (((12 : Int32)) &&& 31)) &&& ((15 : Int32)))))).trans (hC1.s.b kx nx hkx hx0)
    refine v_aload_n C eX12_digitsOf_99 rfl 0 rfl ?_
    refine n_get C I fX12_105_X12 eX12_digitsOf_100 (hN 49 (by decide)) hC1.s.obj rfl ?_
    refine v_iconst (v := (2 : Int32)) C eX12_digitsOf_103 (by decide) ?_
    refine v_aload_n C eX12_digitsOf_104 rfl 0 rfl ?_
    refine n_get C I fX12_243_X12 eX12_digitsOf_105 (hN 49 (by decide)) hC1.s.obj rfl ?_
    refine v_imul C eX12_digitsOf_108 ?_
    refine v_iconst (v := (1 : Int32)) C eX12_digitsOf_109 (by decide) ?_
    refine v_iadd C eX12_digitsOf_110 ?_
    refine v_iload_n C eX12_digitsOf_111 rfl 3 rfl ?_
    refine v_bipush (v := (8 : Int32)) C eX12_digitsOf_112 (by decide) ?_
    refine v_ishr C eX12_digitsOf_114 ?_
    refine v_bipush (v := (15 : Int32)) C eX12_digitsOf_115 (by decide) ?_
    refine v_iand C eX12_digitsOf_117 ?_
    refine n_iast C I eX12_digitsOf_118 (hN 36 (by decide)) rfl ((2 * nn) + 1) (ix_add (a := 2 * nn) (b := 1) (ix_mul (a := 2) (b := nn) (rfl : (2 : Int32) = nI 2) hC1.n) (rfl : (1 : Int32) = nI 1)) (by omega) (by decide) ?_
    have h6 := (n_ne hkx36 (e := eI G 67 (upd (upd (bt τ 36) (2 * nn) (((nI ((ckN (sl (bt σ kx) a nn) (2 * nn)) * 16)) >>> (((12 : Int32)) &&& 31)) &&& ((15 : Int32)))) ((2 * nn) + 1) (((nI ((ckN (sl (bt σ kx) a nn) (2 * nn)) * 16)) >>> (((8 : Int32)) &&& 31)) &&& ((15 : Int32)))))).trans h5
    refine v_aload_n C eX12_digitsOf_119 rfl 0 rfl ?_
    refine n_get C I fX12_105_X12 eX12_digitsOf_120 (hN 49 (by decide)) hC1.s.obj rfl ?_
    refine v_iconst (v := (2 : Int32)) C eX12_digitsOf_123 (by decide) ?_
    refine v_aload_n C eX12_digitsOf_124 rfl 0 rfl ?_
    refine n_get C I fX12_243_X12 eX12_digitsOf_125 (hN 49 (by decide)) hC1.s.obj rfl ?_
    refine v_imul C eX12_digitsOf_128 ?_
    refine v_iconst (v := (2 : Int32)) C eX12_digitsOf_129 (by decide) ?_
    refine v_iadd C eX12_digitsOf_130 ?_
    refine v_iload_n C eX12_digitsOf_131 rfl 3 rfl ?_
    refine v_iconst (v := (4 : Int32)) C eX12_digitsOf_132 (by decide) ?_
    refine v_ishr C eX12_digitsOf_133 ?_
    refine v_bipush (v := (15 : Int32)) C eX12_digitsOf_134 (by decide) ?_
    refine v_iand C eX12_digitsOf_136 ?_
    refine n_iast C I eX12_digitsOf_137 (hN 36 (by decide)) rfl ((2 * nn) + 2) (ix_add (a := 2 * nn) (b := 2) (ix_mul (a := 2) (b := nn) (rfl : (2 : Int32) = nI 2) hC1.n) (rfl : (2 : Int32) = nI 2)) (by omega) (by decide) ?_
    have h7 := (n_ne hkx36 (e := eI G 67 (upd (upd (upd (bt τ 36) (2 * nn) (((nI ((ckN (sl (bt σ kx) a nn) (2 * nn)) * 16)) >>> (((12 : Int32)) &&& 31)) &&& ((15 : Int32)))) ((2 * nn) + 1) (((nI ((ckN (sl (bt σ kx) a nn) (2 * nn)) * 16)) >>> (((8 : Int32)) &&& 31)) &&& ((15 : Int32)))) ((2 * nn) + 2) (((nI ((ckN (sl (bt σ kx) a nn) (2 * nn)) * 16)) >>> (((4 : Int32)) &&& 31)) &&& ((15 : Int32)))))).trans h6
    refine v_eq (w' := nW ad N (va_up τ 36 (eI G 67 (upd (upd (upd (bt τ 36) (2 * nn) (((nI ((ckN (sl (bt σ kx) a nn) (2 * nn)) * 16)) >>> (((12 : Int32)) &&& 31)) &&& ((15 : Int32)))) ((2 * nn) + 1) (((nI ((ckN (sl (bt σ kx) a nn) (2 * nn)) * 16)) >>> (((8 : Int32)) &&& 31)) &&& ((15 : Int32)))) ((2 * nn) + 2) (((nI ((ckN (sl (bt σ kx) a nn) (2 * nn)) * 16)) >>> (((4 : Int32)) &&& 31)) &&& ((15 : Int32))))))) (congrArg (nW ad N) (n_extL [36] ⟨rfl, trivial⟩ (fun q h => by simp only [List.mem_cons, List.not_mem_nil, or_false, not_or] at h; simp [va_up, h]))) rfl rfl ?_
    refine n_vret C rfl eX12_digitsOf_138 ⟨rfl, hC1.keep (hC1.s.upI (Or.inr ⟨rfl, rfl⟩) _) rfl rfl rfl, fun k hk => (by simp [va_up, hk]; exact hk1 k hk), fun i hi => ?_⟩
    show (upd (upd (upd (bt τ 36) (2 * nn) (((nI ((ckN (sl (bt σ kx) a nn) (2 * nn)) * 16)) >>> (((12 : Int32)) &&& 31)) &&& ((15 : Int32)))) ((2 * nn) + 1) (((nI ((ckN (sl (bt σ kx) a nn) (2 * nn)) * 16)) >>> (((8 : Int32)) &&& 31)) &&& ((15 : Int32)))) ((2 * nn) + 2) (((nI ((ckN (sl (bt σ kx) a nn) (2 * nn)) * 16)) >>> (((4 : Int32)) &&& 31)) &&& ((15 : Int32)))) i = _
    unfold digL upd
    skip
    by_cases e1 : i < 2 * nn
    · rw [if_neg (by omega), if_neg (by omega), if_neg (by omega), if_pos e1]; exact hv1 i e1
    · rw [if_neg e1]
      by_cases e2 : i = 2 * nn
      · rw [if_neg (by omega), if_neg (by omega), if_pos e2, if_pos e2]; refine ((ix_and (ix_shr (a := (ckN (sl (bt σ kx) a nn) (2 * nn) * 16)) rfl 12 (by decide) (by omega)) 4 (by decide) (by omega))).trans (congrArg nI ?_); omega
      · by_cases e3 : i = 2 * nn + 1
        · rw [if_neg (by omega), if_pos e3, if_neg e2, if_pos e3]; refine ((ix_and (ix_shr (a := (ckN (sl (bt σ kx) a nn) (2 * nn) * 16)) rfl 8 (by decide) (by omega)) 4 (by decide) (by omega))).trans (congrArg nI ?_); omega
        · rw [if_pos (show i = 2 * nn + 2 by omega), if_neg e2, if_neg e3]; refine ((ix_and (ix_shr (a := (ckN (sl (bt σ kx) a nn) (2 * nn) * 16)) rfl 4 (by decide) (by omega)) 4 (by decide) (by omega))).trans (congrArg nI ?_); omega
  · intro j hj ih τ hI
    obtain ⟨hC1, hk1, hv1⟩ := hI
    have hbx : bt τ kx = bt σ kx := bt_same (hk1 kx hkx36)
    have hck := ckN_le (sl (bt σ kx) a nn) j
    refine v_iload C eX12_digitsOf_5 4 rfl ?_
    refine v_iconst (v := (2 : Int32)) C eX12_digitsOf_7 (by decide) ?_
    refine v_aload_n C eX12_digitsOf_8 rfl 0 rfl ?_
    refine n_get C I fX12_243_X12 eX12_digitsOf_9 (hN 49 (by decide)) hC1.s.obj rfl ?_
    refine v_imul C eX12_digitsOf_12 ?_
    refine v_icmp_ge (tgt := 76) C eX12_digitsOf_13 (by decide) (fun h => absurd h (ix_nle (a := 2 * nn) (b := j) (ix_mul (a := 2) (b := nn) (rfl : (2 : Int32) = nI 2) hC1.n) (rfl : nI j = nI j) (by omega) (by omega) (by omega))) (fun _ => ?_)
    refine v_aload_n C eX12_digitsOf_16 rfl 0 rfl ?_
    refine n_get C I fX12_105_X12 eX12_digitsOf_17 (hN 49 (by decide)) hC1.s.obj rfl ?_
    refine v_iload C eX12_digitsOf_20 4 rfl ?_
    refine v_iload C eX12_digitsOf_22 4 rfl ?_
    refine v_iconst (v := (2 : Int32)) C eX12_digitsOf_24 (by decide) ?_
    refine v_irem C eX12_digitsOf_25 (by decide) ?_
    by_cases c2 : j % 2 = 0
    · refine v_if_ne (tgt := 45) C eX12_digitsOf_26 (by decide) (fun h => absurd (ix_eq (a := j % 2) (b := 0) (ix_rem (a := j) (d := 2) (rfl : nI j = nI j) (rfl : (2 : Int32) = nI 2) (by omega) (by omega) (by omega)) (rfl : (0 : Int32) = nI 0) (by omega) (by omega) (by omega)) h) (fun _ => ?_)
      refine v_aload_n C eX12_digitsOf_29 rfl 1 rfl ?_
      refine v_iload_n C eX12_digitsOf_30 rfl 2 rfl ?_
      refine v_iload C eX12_digitsOf_31 4 rfl ?_
      refine v_iconst (v := (2 : Int32)) C eX12_digitsOf_33 (by decide) ?_
      refine v_idiv C eX12_digitsOf_34 (by decide) ?_
      refine v_iadd C eX12_digitsOf_35 ?_
      refine n_bald C I eX12_digitsOf_36 (hN kx (rLn_74 (Nat.lt_of_lt_of_eq hx0 hkx.symm))) (hC1.s.b kx nx hkx hx0) (a + (j / 2)) (ix_add (a := a) (b := j / 2) (rfl : nI a = nI a) (ix_div (a := j) (d := 2) (rfl : nI j = nI j) (rfl : (2 : Int32) = nI 2) (by omega) (by omega) (by omega))) (by omega) (by omega) ?_
      refine v_iconst (v := (4 : Int32)) C eX12_digitsOf_37 (by decide) ?_
      refine v_ishr C eX12_digitsOf_38 ?_
      refine v_bipush (v := (15 : Int32)) C eX12_digitsOf_39 (by decide) ?_
      refine v_iand C eX12_digitsOf_41 ?_
      refine v_goto (tgt := 56) C eX12_digitsOf_42 (by decide) ?_
      refine v_topi (fun x1 hx1 => ?_)
      refine n_iast C I eX12_digitsOf_56 (hN 36 (by decide)) hC1.s.dig j (rfl : nI j = nI j) (by omega) (by decide) ?_
      have h2 := (n_ne hkx36 (e := eI G 67 (upd (bt τ 36) j x1))).trans (hC1.s.b kx nx hkx hx0)
      have hdj := dgt_15 (sl (bt σ kx) a nn) j
      refine v_iload_n C eX12_digitsOf_57 rfl 3 rfl ?_
      refine v_bipush (v := (15 : Int32)) C eX12_digitsOf_58 (by decide) ?_
      refine v_aload_n C eX12_digitsOf_60 rfl 0 rfl ?_
      refine n_get C I fX12_105_X12 eX12_digitsOf_61 (hN 49 (by decide)) hC1.s.obj rfl ?_
      refine v_iload C eX12_digitsOf_64 4 rfl ?_
      refine n_iald C I eX12_digitsOf_66 (hN 36 (by decide)) rfl j (rfl : nI j = nI j) (by omega) (by decide) ?_
      refine v_isub C eX12_digitsOf_67 ?_
      refine v_iadd C eX12_digitsOf_68 ?_
      refine v_natT (show (nI (ckN (sl (bt σ kx) a nn) j)) + (((15 : Int32)) - ((upd (bt τ 36) j x1) j)) = nI (ckN (sl (bt σ kx) a nn) (j + 1)) from (ix_add (a := ckN (sl (bt σ kx) a nn) j) (b := 15 - (dgt (sl (bt σ kx) a nn) j)) (rfl : nI (ckN (sl (bt σ kx) a nn) j) = nI (ckN (sl (bt σ kx) a nn) j)) (ix_sub (a := 15) (b := dgt (sl (bt σ kx) a nn) j) (rfl : (15 : Int32) = nI 15) (pk_us.trans (hx1.trans (by rw [hbx]; exact dg_even c2 hj))) (by omega)))) ?_
      refine v_istore_n (lv' := [(0, .ref (ad 49)), (1, .ref (ad kx)), (2, .int (nI a)), (3, .int (nI (ckN (sl (bt σ kx) a nn) (j + 1)))), (4, .int (nI j))]) C eX12_digitsOf_69 rfl (by decide) [1, 2, 3, 0, 4] rfl ?_
      refine v_iinc (lv' := [(0, .ref (ad 49)), (1, .ref (ad kx)), (2, .int (nI a)), (3, .int (nI (ckN (sl (bt σ kx) a nn) (j + 1)))), (4, .int (nI (j + 1)))]) C eX12_digitsOf_70 4 rfl (ix_inc _) (by decide) [1, 2, 3, 4, 0] rfl ?_
      refine v_goto (tgt := 5) C eX12_digitsOf_73 (by decide) ?_
      refine ih _ ⟨hC1.keep (hC1.s.upI (Or.inr ⟨rfl, rfl⟩) _) rfl rfl rfl, fun k hk => (by simp [va_up, hk]; exact hk1 k hk), fun i hi => ?_⟩
      show upd (bt τ 36) j x1 i = _
      by_cases e : i = j
      · subst e; rw [pk_us]; exact (hx1.trans (by rw [hbx]; exact dg_even c2 hj))
      · rw [pk_un e]; exact hv1 i (by omega)
    · refine v_if_ne (tgt := 45) C eX12_digitsOf_26 (by decide) (fun _ => ?_) (fun h => absurd h (ix_ne (a := j % 2) (b := 0) (ix_rem (a := j) (d := 2) (rfl : nI j = nI j) (rfl : (2 : Int32) = nI 2) (by omega) (by omega) (by omega)) (rfl : (0 : Int32) = nI 0) (by omega) (by omega) (by omega)))
      refine v_aload_n C eX12_digitsOf_45 rfl 1 rfl ?_
      refine v_iload_n C eX12_digitsOf_46 rfl 2 rfl ?_
      refine v_iload C eX12_digitsOf_47 4 rfl ?_
      refine v_iconst (v := (2 : Int32)) C eX12_digitsOf_49 (by decide) ?_
      refine v_idiv C eX12_digitsOf_50 (by decide) ?_
      refine v_iadd C eX12_digitsOf_51 ?_
      refine n_bald C I eX12_digitsOf_52 (hN kx (rLn_74 (Nat.lt_of_lt_of_eq hx0 hkx.symm))) (hC1.s.b kx nx hkx hx0) (a + (j / 2)) (ix_add (a := a) (b := j / 2) (rfl : nI a = nI a) (ix_div (a := j) (d := 2) (rfl : nI j = nI j) (rfl : (2 : Int32) = nI 2) (by omega) (by omega) (by omega))) (by omega) (by omega) ?_
      refine v_bipush (v := (15 : Int32)) C eX12_digitsOf_53 (by decide) ?_
      refine v_iand C eX12_digitsOf_55 ?_
      refine v_topi (fun x3 hx3 => ?_)
      refine n_iast C I eX12_digitsOf_56 (hN 36 (by decide)) hC1.s.dig j (rfl : nI j = nI j) (by omega) (by decide) ?_
      have h4 := (n_ne hkx36 (e := eI G 67 (upd (bt τ 36) j x3))).trans (hC1.s.b kx nx hkx hx0)
      have hdj := dgt_15 (sl (bt σ kx) a nn) j
      refine v_iload_n C eX12_digitsOf_57 rfl 3 rfl ?_
      refine v_bipush (v := (15 : Int32)) C eX12_digitsOf_58 (by decide) ?_
      refine v_aload_n C eX12_digitsOf_60 rfl 0 rfl ?_
      refine n_get C I fX12_105_X12 eX12_digitsOf_61 (hN 49 (by decide)) hC1.s.obj rfl ?_
      refine v_iload C eX12_digitsOf_64 4 rfl ?_
      refine n_iald C I eX12_digitsOf_66 (hN 36 (by decide)) rfl j (rfl : nI j = nI j) (by omega) (by decide) ?_
      refine v_isub C eX12_digitsOf_67 ?_
      refine v_iadd C eX12_digitsOf_68 ?_
      refine v_natT (show (nI (ckN (sl (bt σ kx) a nn) j)) + (((15 : Int32)) - ((upd (bt τ 36) j x3) j)) = nI (ckN (sl (bt σ kx) a nn) (j + 1)) from (ix_add (a := ckN (sl (bt σ kx) a nn) j) (b := 15 - (dgt (sl (bt σ kx) a nn) j)) (rfl : nI (ckN (sl (bt σ kx) a nn) j) = nI (ckN (sl (bt σ kx) a nn) j)) (ix_sub (a := 15) (b := dgt (sl (bt σ kx) a nn) j) (rfl : (15 : Int32) = nI 15) (pk_us.trans (hx3.trans (by rw [hbx]; exact dg_odd c2 hj))) (by omega)))) ?_
      refine v_istore_n (lv' := [(0, .ref (ad 49)), (1, .ref (ad kx)), (2, .int (nI a)), (3, .int (nI (ckN (sl (bt σ kx) a nn) (j + 1)))), (4, .int (nI j))]) C eX12_digitsOf_69 rfl (by decide) [1, 2, 3, 0, 4] rfl ?_
      refine v_iinc (lv' := [(0, .ref (ad 49)), (1, .ref (ad kx)), (2, .int (nI a)), (3, .int (nI (ckN (sl (bt σ kx) a nn) (j + 1)))), (4, .int (nI (j + 1)))]) C eX12_digitsOf_70 4 rfl (ix_inc _) (by decide) [1, 2, 3, 4, 0] rfl ?_
      refine v_goto (tgt := 5) C eX12_digitsOf_73 (by decide) ?_
      refine ih _ ⟨hC1.keep (hC1.s.upI (Or.inr ⟨rfl, rfl⟩) _) rfl rfl rfl, fun k hk => (by simp [va_up, hk]; exact hk1 k hk), fun i hi => ?_⟩
      show upd (bt τ 36) j x3 i = _
      by_cases e : i = j
      · subst e; rw [pk_us]; exact (hx3.trans (by rw [hbx]; exact dg_odd c2 hj))
      · rw [pk_un e]; exact hv1 i (by omega)

/-- a signature of a tree: the chains' stops and the path -/
def sgC (F : fT) (K : List Int32) (D : Nat → Nat) (i j : Nat) : List Int32 := chL F i j 0 (D j) (F 5 i j 0 K)
def sgP (F : fT) (K : List Int32) (c i j : Nat) : List Int32 := nodeL F K c j ((i / 2 ^ j) ^^^ 1)
def sgL (F : fT) (K : List Int32) (c hh : Nat) (D : Nat → Nat) (i : Nat) : List Int32 := cat (sgC F K D i) c ++ cat (sgP F K c i) hh
theorem sgC_len {K : List Int32} {D : Nat → Nat} {i : Nat} (j : Nat) : (sgC (fF θ sh nn P H) K D i j).length = nn := chL_len (fF_len _ _ _ _ _) _
theorem sgP_len {K : List Int32} {c i : Nat} (j : Nat) : (sgP (fF θ sh nn P H) K c i j).length = nn := nodeL_len _ _
set_option maxRecDepth 100000 in
set_option maxHeartbeats 4000000 in
theorem rc_signTree (I : nI1 ad N) (hN : ∀ k, k < 74 → k < N) (hC : RC G ad θ x sh nn P H K σ) (h47 : x 47 = nI (2 * nn + 3)) {hh : Nat} (h44 : x 44 = nI hh) (hh9 : hh ≤ 9) {kx nx : Nat} (hkx : rLn kx = nx) (hx0 : 0 < nx) {ko no : Nat} (hko : rLn ko = no) (ho0 : 0 < no) (hfr : ko ≠ 28 ∧ ko ≠ 37 ∧ ko ≠ 38) (hk30 : ko ≠ 30) (hkp : ko < 58) (a i b : Nat) (ha : a + nn ≤ nx) (hi : i < 2 ^ hh) (hb : b + (2 * nn + 3 + hh) * nn ≤ no) : nOk G B l ad N yX12_signTree cX12_signTree 7 none 20 0 0 [.ref (ad 49), .ref (ad kx), .int (nI a), .int (nI i), .ref (ad ko), .int (nI b)] σ (fun r σ' => r = none ∧ RC G ad θ x sh nn P H K σ' ∧ (∀ k, ¬ (13 ≤ k ∧ k ≤ 17 ∨ k = 49 ∨ k = 28 ∨ k = 30 ∨ k = 36 ∨ (58 < k ∧ k < 74) ∨ k = ko) → σ' k = σ k) ∧ bt σ' ko = wr (bt σ ko) b (sgL (fF θ sh nn P H) K (2 * nn + 3) hh (digL nn (sl (bt σ kx) a nn)) i)) := by
  refine vOk.of (by decide +kernel) (Nat.le_of_ble_eq_true rfl) ?_
  intro p e s m args below meth c C
  refine v_eq (lv' := [(0, .ref (ad 49)), (1, .ref (ad kx)), (2, .int (nI a)), (3, .int (nI i)), (4, .ref (ad ko)), (5, .int (nI b))]) rfl rfl rfl ?_
  have hn := hC.qnn
  have ho31 : no < 2 ^ 31 := hko ▸ rLn_31 (k := ko) (by omega)
  have hoh := rLn_h (k := ko) (by omega)
  have ho36 : ¬ ko = 36 := fun q => rLn_off (k := ko) (by omega) (by rw [q]; decide)
  have hi2 : i < 2 ^ 31 := Nat.lt_trans hi (Nat.lt_of_le_of_lt (Nat.pow_le_pow_right (by decide) hh9) (by decide))
  have hmul : (2 * nn + 3 + hh) * nn = (2 * nn + 3) * nn + hh * nn := Nat.add_mul _ _ _
  have hcn : (2 * nn + 3) * nn ≤ 2144 := by rcases hn with h | h | h <;> subst h <;> decide
  have hhn : hh * nn ≤ 9 * 32 := Nat.mul_le_mul hh9 (by omega)
  refine v_aload_n C eX12_signTree_0 rfl 0 rfl ?_
  refine v_aload_n C eX12_signTree_1 rfl 1 rfl ?_
  refine v_iload_n C eX12_signTree_2 rfl 2 rfl ?_
  refine n_callV (As := [.ref (ad kx), .int (nI a)]) (rest := []) C I mX12_292 (rc_digitsOf I hN hC hkx hx0 a ha) (hN 49 (by decide)) hC.s.obj rfl (by decide) (by decide) ⟨by decide, by decide⟩ rfl (vi_c (rfl : nI a = nI a) (vi_k rfl)) (Nat.le_of_ble_eq_true rfl) eX12_signTree_3 (fun r σ0 hp => ?_)
  obtain ⟨rfl, hC0, hk0, hv0⟩ := hp
  refine v_iconst (v := nI 0) C eX12_signTree_6 (by decide) ?_
  refine v_istore (lv' := [(0, .ref (ad 49)), (1, .ref (ad kx)), (2, .int (nI a)), (3, .int (nI i)), (4, .ref (ad ko)), (5, .int (nI b)), (6, .int (nI 0))]) C eX12_signTree_7 (by decide) [1, 2, 3, 4, 5, 6, 0] rfl ?_
  refine v_forP (fun j τ => RC G ad θ x sh nn P H K τ ∧ (∀ k, ¬ (13 ≤ k ∧ k ≤ 17 ∨ k = 49 ∨ k = 28 ∨ k = ko) → τ k = σ0 k) ∧ bt τ ko = wr (bt σ ko) b (cat (sgC (fF θ sh nn P H) K (digL nn (sl (bt σ kx) a nn)) i) j)) (fun j => [(0, .ref (ad 49)), (1, .ref (ad kx)), (2, .int (nI a)), (3, .int (nI i)), (4, .ref (ad ko)), (5, .int (nI b)), (6, .int (nI j))]) (2 * nn + 3) ?_ ?_ _ ⟨hC0, fun k _ => rfl, (bt_same (hk0 ko ho36)).trans wr_nil.symm⟩
  · intro τ hI
    obtain ⟨hC1, hk1, hv1⟩ := hI
    refine v_iload C eX12_signTree_9 6 rfl ?_
    refine v_aload_n C eX12_signTree_11 rfl 0 rfl ?_
    refine n_get C I fX12_261_X12 eX12_signTree_12 (hN 49 (by decide)) hC1.s.obj rfl ?_
    refine v_icmp_ge (tgt := 76) C eX12_signTree_15 (by decide) (fun _ => ?_) (fun h => absurd (ix_le (a := 2 * nn + 3) (b := 2 * nn + 3) (hC1.s.i47.trans h47) (rfl : nI (2 * nn + 3) = nI (2 * nn + 3)) (by omega) (by omega) (by omega)) h)
    refine v_iconst (v := nI 0) C eX12_signTree_76 (by decide) ?_
    refine v_istore (lv' := [(0, .ref (ad 49)), (1, .ref (ad kx)), (2, .int (nI a)), (3, .int (nI i)), (4, .ref (ad ko)), (5, .int (nI b)), (6, .int (nI 0))]) C eX12_signTree_77 (by decide) [1, 2, 3, 4, 5, 6, 0] rfl ?_
    refine v_forP (fun j ρ => RC G ad θ x sh nn P H K ρ ∧ (∀ k, ¬ (13 ≤ k ∧ k ≤ 17 ∨ k = 49 ∨ k = 28 ∨ k = 30 ∨ (58 < k ∧ k < 74) ∨ k = ko) → ρ k = σ0 k) ∧ bt ρ ko = wr (bt σ ko) b (cat (sgC (fF θ sh nn P H) K (digL nn (sl (bt σ kx) a nn)) i) (2 * nn + 3) ++ cat (sgP (fF θ sh nn P H) K (2 * nn + 3) i) j)) (fun j => [(0, .ref (ad 49)), (1, .ref (ad kx)), (2, .int (nI a)), (3, .int (nI i)), (4, .ref (ad ko)), (5, .int (nI b)), (6, .int (nI j))]) hh ?_ ?_ _ ⟨hC1, fun k hk => hk1 k (by omega), hv1.trans (by rw [show ∀ f, cat f 0 = [] from fun _ => rfl, List.append_nil])⟩
    · intro ρ hI
      obtain ⟨hC5, hk5, hv5⟩ := hI
      refine v_iload C eX12_signTree_79 6 rfl ?_
      refine v_aload_n C eX12_signTree_81 rfl 0 rfl ?_
      refine n_get C I fX12_258_X12 eX12_signTree_82 (hN 49 (by decide)) hC5.s.obj rfl ?_
      refine v_icmp_ge (tgt := 123) C eX12_signTree_85 (by decide) (fun _ => ?_) (fun h => absurd (ix_le (a := hh) (b := hh) (hC5.s.i44.trans h44) (rfl : nI hh = nI hh) (by omega) (by omega) (by omega)) h)
      exact n_vret C rfl eX12_signTree_123 ⟨rfl, hC5, fun k hk => (hk5 k (by omega)).trans (hk0 k (by omega)), hv5⟩
    · intro j hj ih ρ hI
      obtain ⟨hC5, hk5, hv5⟩ := hI
      refine v_iload C eX12_signTree_79 6 rfl ?_
      refine v_aload_n C eX12_signTree_81 rfl 0 rfl ?_
      refine n_get C I fX12_258_X12 eX12_signTree_82 (hN 49 (by decide)) hC5.s.obj rfl ?_
      refine v_icmp_ge (tgt := 123) C eX12_signTree_85 (by decide) (fun h => absurd h (ix_nle (a := hh) (b := j) (hC5.s.i44.trans h44) (rfl : nI j = nI j) (by omega) (by omega) (by omega))) (fun _ => ?_)
      have hsb := sib_b hi hj
      have hsl := sib_le hi hj
      have h29 : 2 ^ hh ≤ 2 ^ 9 := Nat.pow_le_pow_right (by decide) hh9
      have h2j : 2 ^ (hh - j) ≤ 2 ^ 9 := Nat.pow_le_pow_right (by decide) (by omega)
      have hij : i / 2 ^ j ≤ i := Nat.div_le_self _ _
      have hjn : j * nn + nn ≤ hh * nn := by rw [← Nat.succ_mul]; exact Nat.mul_le_mul_right _ hj
      have hadd : (2 * nn + 3 + j) * nn = (2 * nn + 3) * nn + j * nn := Nat.add_mul _ _ _
      refine v_aload_n C eX12_signTree_88 rfl 0 rfl ?_
      refine v_iload C eX12_signTree_89 6 rfl ?_
      refine v_iload_n C eX12_signTree_91 rfl 3 rfl ?_
      refine v_iload C eX12_signTree_92 6 rfl ?_
      refine v_ishr C eX12_signTree_94 ?_
      refine v_iconst (v := (1 : Int32)) C eX12_signTree_95 (by decide) ?_
      refine v_ixor C eX12_signTree_96 ?_
      refine v_aload C eX12_signTree_97 4 rfl ?_
      refine v_iload C eX12_signTree_99 5 rfl ?_
      refine v_aload_n C eX12_signTree_101 rfl 0 rfl ?_
      refine n_get C I fX12_261_X12 eX12_signTree_102 (hN 49 (by decide)) hC5.s.obj rfl ?_
      refine v_iload C eX12_signTree_105 6 rfl ?_
      refine v_iadd C eX12_signTree_107 ?_
      refine v_aload_n C eX12_signTree_108 rfl 0 rfl ?_
      refine n_get C I fX12_243_X12 eX12_signTree_109 (hN 49 (by decide)) hC5.s.obj rfl ?_
      refine v_imul C eX12_signTree_112 ?_
      refine v_iadd C eX12_signTree_113 ?_
      refine n_callV (As := [.int (nI j), .int (nI ((i / 2 ^ j) ^^^ 1)), .ref (ad ko), .int (nI (b + (((2 * nn + 3) + j) * nn)))]) (rest := []) C I mX12_288 (rc_node I hN h47 j (by omega) hC5 hko ho0 hfr hk30 (by omega) ((i / 2 ^ j) ^^^ 1) (b + (2 * nn + 3 + j) * nn) (by omega) (by omega)) (hN 49 (by decide)) hC5.s.obj rfl (by omega) (by decide) ⟨by decide, by decide⟩ rfl (vi_c (ix_add (a := b) (b := ((2 * nn + 3) + j) * nn) (rfl : nI b = nI b) (ix_mul (a := (2 * nn + 3) + j) (b := nn) (ix_add (a := 2 * nn + 3) (b := j) (hC5.s.i47.trans h47) (rfl : nI j = nI j)) hC5.n)) (vi_k (vi_c (ix_xor (a := i / 2 ^ j) (b := 1) (ix_shrV (a := i) (j := j) (rfl : nI i = nI i) (rfl : nI j = nI j) (by omega) (by omega)) (rfl : (1 : Int32) = nI 1) (by omega) (by omega)) (vi_c (rfl : nI j = nI j) rfl)))) (Nat.le_of_ble_eq_true rfl) eX12_signTree_114 (fun r σ6 hp => ?_)
      obtain ⟨rfl, hC6, hk6, hv6⟩ := hp
      refine v_iinc (lv' := [(0, .ref (ad 49)), (1, .ref (ad kx)), (2, .int (nI a)), (3, .int (nI i)), (4, .ref (ad ko)), (5, .int (nI b)), (6, .int (nI (j + 1)))]) C eX12_signTree_117 6 rfl (ix_inc _) (by decide) [1, 2, 3, 4, 5, 6, 0] rfl ?_
      refine v_goto (tgt := 79) C eX12_signTree_120 (by decide) ?_
      refine ih σ6 ⟨hC6, fun k hk => (hk6 k (by omega)).trans (hk5 k hk), ?_⟩
      rw [hv6, hv5, wr_app (by rw [List.length_append, cat_len sgC_len, cat_len sgP_len]; omega), List.append_assoc]
      rfl
  · intro j hj ih τ hI
    obtain ⟨hC1, hk1, hv1⟩ := hI
    refine v_iload C eX12_signTree_9 6 rfl ?_
    refine v_aload_n C eX12_signTree_11 rfl 0 rfl ?_
    refine n_get C I fX12_261_X12 eX12_signTree_12 (hN 49 (by decide)) hC1.s.obj rfl ?_
    refine v_icmp_ge (tgt := 76) C eX12_signTree_15 (by decide) (fun h => absurd h (ix_nle (a := 2 * nn + 3) (b := j) (hC1.s.i47.trans h47) (rfl : nI j = nI j) (by omega) (by omega) (by omega))) (fun _ => ?_)
    refine v_aload_n C eX12_signTree_18 rfl 0 rfl ?_
    refine v_iconst (v := (5 : Int32)) C eX12_signTree_19 (by decide) ?_
    refine v_iload_n C eX12_signTree_20 rfl 3 rfl ?_
    refine v_iload C eX12_signTree_21 6 rfl ?_
    refine v_iconst (v := (0 : Int32)) C eX12_signTree_23 (by decide) ?_
    have hjn : j * nn + nn ≤ (2 * nn + 3) * nn := by rw [← Nat.succ_mul]; exact Nat.mul_le_mul_right _ hj
    have hdj := digL_15 nn (sl (bt σ kx) a nn) j
    have h36 : bt τ 36 j = nI (digL nn (sl (bt σ kx) a nn) j) := by rw [bt_same (hk1 36 (by omega))]; exact hv0 j (by omega)
    refine n_callV (As := [.int (nI 5), .int (nI i), .int (nI j), .int (nI 0)]) (rest := []) C I mX12_272 (rc_type I hN hC1 5 i j 0) (hN 49 (by decide)) hC1.s.obj rfl (by decide) (by decide) ⟨by decide, by decide⟩ rfl (vi_c (rfl : (0 : Int32) = nI 0) (vi_c (rfl : nI j = nI j) (vi_c (rfl : nI i = nI i) (vi_c (rfl : (5 : Int32) = nI 5) rfl)))) (Nat.le_of_ble_eq_true rfl) eX12_signTree_24 (fun r σ2 hp => ?_)
    obtain ⟨rfl, hC2, hk2, hY2⟩ := hp
    refine v_aload_n C eX12_signTree_27 rfl 0 rfl ?_
    refine v_aload C eX12_signTree_28 4 rfl ?_
    refine v_iload C eX12_signTree_30 5 rfl ?_
    refine v_iload C eX12_signTree_32 6 rfl ?_
    refine v_aload_n C eX12_signTree_34 rfl 0 rfl ?_
    refine n_get C I fX12_243_X12 eX12_signTree_35 (hN 49 (by decide)) hC2.s.obj rfl ?_
    refine v_imul C eX12_signTree_38 ?_
    refine v_iadd C eX12_signTree_39 ?_
    refine n_callV (As := [.ref (ad ko), .int (nI (b + (j * nn)))]) (rest := []) C I mX12_276 (rc_pseudo I hN hC2 hY2 hko ho0 hfr (b + j * nn) (by omega)) (hN 49 (by decide)) hC2.s.obj rfl (by decide) (by decide) ⟨by decide, by decide⟩ rfl (vi_c (ix_add (a := b) (b := j * nn) (rfl : nI b = nI b) (ix_mul (a := j) (b := nn) (rfl : nI j = nI j) hC2.n)) (vi_k rfl)) (Nat.le_of_ble_eq_true rfl) eX12_signTree_40 (fun r σ3 hp => ?_)
    obtain ⟨rfl, hC3, hk3, hv3⟩ := hp
    refine v_aload_n C eX12_signTree_43 rfl 0 rfl ?_
    refine v_iload_n C eX12_signTree_44 rfl 3 rfl ?_
    refine v_iload C eX12_signTree_45 6 rfl ?_
    refine v_iconst (v := (0 : Int32)) C eX12_signTree_47 (by decide) ?_
    refine v_aload_n C eX12_signTree_48 rfl 0 rfl ?_
    refine n_get C I fX12_105_X12 eX12_signTree_49 (hN 49 (by decide)) hC3.s.obj rfl ?_
    refine v_iload C eX12_signTree_52 6 rfl ?_
    refine n_iald C I eX12_signTree_54 (hN 36 (by decide)) hC3.s.dig j (rfl : nI j = nI j) (by omega) (by decide) ?_
    refine v_aload C eX12_signTree_55 4 rfl ?_
    refine v_iload C eX12_signTree_57 5 rfl ?_
    refine v_iload C eX12_signTree_59 6 rfl ?_
    refine v_aload_n C eX12_signTree_61 rfl 0 rfl ?_
    refine n_get C I fX12_243_X12 eX12_signTree_62 (hN 49 (by decide)) hC3.s.obj rfl ?_
    refine v_imul C eX12_signTree_65 ?_
    refine v_iadd C eX12_signTree_66 ?_
    refine n_callV (As := [.int (nI i), .int (nI j), .int (nI 0), .int (nI ((digL nn (sl (bt σ kx) a nn) j))), .ref (ad ko), .int (nI (b + (j * nn)))]) (rest := []) C I mX12_280 (rc_chain I hN hC3 hko ho0 hfr i j 0 (digL nn (sl (bt σ kx) a nn) j) (b + j * nn) (by omega) (by omega)) (hN 49 (by decide)) hC3.s.obj rfl (by decide) (by decide) ⟨by decide, by decide⟩ rfl (vi_c (ix_add (a := b) (b := j * nn) (rfl : nI b = nI b) (ix_mul (a := j) (b := nn) (rfl : nI j = nI j) hC3.n)) (vi_k (vi_c (by rw [bt_same (hk3 36 (by omega)), bt_same (hk2 36 (by omega))]; exact h36) (vi_c (rfl : (0 : Int32) = nI 0) (vi_c (rfl : nI j = nI j) (vi_c (rfl : nI i = nI i) rfl)))))) (Nat.le_of_ble_eq_true rfl) eX12_signTree_67 (fun r σ4 hp => ?_)
    obtain ⟨rfl, hC4, hk4, hv4⟩ := hp
    refine v_iinc (lv' := [(0, .ref (ad 49)), (1, .ref (ad kx)), (2, .int (nI a)), (3, .int (nI i)), (4, .ref (ad ko)), (5, .int (nI b)), (6, .int (nI (j + 1)))]) C eX12_signTree_70 6 rfl (ix_inc _) (by decide) [1, 2, 3, 4, 5, 6, 0] rfl ?_
    refine v_goto (tgt := 9) C eX12_signTree_73 (by decide) ?_
    refine ih σ4 ⟨hC4, fun k hk => (hk4 k (by omega)).trans ((hk3 k (by omega)).trans ((hk2 k (by omega)).trans (hk1 k hk))), ?_⟩
    rw [hv4, hv3, sl_wr' (fF_len _ _ _ _ _), wr_wr ((fF_len _ _ _ _ _).trans (chL_len (fF_len _ _ _ _ _) _).symm), bt_same (hk2 ko hfr.1), hv1, wr_app (by rw [cat_len sgC_len])]
    rfl

end M21
