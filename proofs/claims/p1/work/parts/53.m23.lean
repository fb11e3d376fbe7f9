theorem eX12_forestNode_0 : vD cX12_forestNode 0 (.iload_n 2) 1 1 := ⟨by decide +kernel, rfl⟩
theorem eX12_forestNode_1 : vD cX12_forestNode 1 (.ifCond .ne 47) 3 4 := ⟨by decide +kernel, rfl⟩
theorem eX12_forestNode_4 : vD cX12_forestNode 4 (.aload_n 0) 1 5 := ⟨by decide +kernel, rfl⟩
theorem eX12_forestNode_5 : vD cX12_forestNode 5 (.bipush 6) 2 7 := ⟨by decide +kernel, rfl⟩
theorem eX12_forestNode_7 : vD cX12_forestNode 7 (.iload_n 1) 1 8 := ⟨by decide +kernel, rfl⟩
theorem eX12_forestNode_8 : vD cX12_forestNode 8 (.iconst 0) 1 9 := ⟨by decide +kernel, rfl⟩
theorem eX12_forestNode_9 : vD cX12_forestNode 9 (.iload_n 3) 1 10 := ⟨by decide +kernel, rfl⟩
theorem eX12_forestNode_10 : vD cX12_forestNode 10 (.invokevirtual 272) 3 13 := ⟨by decide +kernel, rfl⟩
theorem eX12_forestNode_13 : vD cX12_forestNode 13 (.aload_n 0) 1 14 := ⟨by decide +kernel, rfl⟩
theorem eX12_forestNode_14 : vD cX12_forestNode 14 (.aload_n 0) 1 15 := ⟨by decide +kernel, rfl⟩
theorem eX12_forestNode_15 : vD cX12_forestNode 15 (.getfield 93) 3 18 := ⟨by decide +kernel, rfl⟩
theorem eX12_forestNode_18 : vD cX12_forestNode 18 (.iconst 0) 1 19 := ⟨by decide +kernel, rfl⟩
theorem eX12_forestNode_19 : vD cX12_forestNode 19 (.invokevirtual 276) 3 22 := ⟨by decide +kernel, rfl⟩
theorem eX12_forestNode_22 : vD cX12_forestNode 22 (.aload_n 0) 1 23 := ⟨by decide +kernel, rfl⟩
theorem eX12_forestNode_23 : vD cX12_forestNode 23 (.iconst 3) 1 24 := ⟨by decide +kernel, rfl⟩
theorem eX12_forestNode_24 : vD cX12_forestNode 24 (.iload_n 1) 1 25 := ⟨by decide +kernel, rfl⟩
theorem eX12_forestNode_25 : vD cX12_forestNode 25 (.iconst 0) 1 26 := ⟨by decide +kernel, rfl⟩
theorem eX12_forestNode_26 : vD cX12_forestNode 26 (.iload_n 3) 1 27 := ⟨by decide +kernel, rfl⟩
theorem eX12_forestNode_27 : vD cX12_forestNode 27 (.invokevirtual 272) 3 30 := ⟨by decide +kernel, rfl⟩
theorem eX12_forestNode_30 : vD cX12_forestNode 30 (.aload_n 0) 1 31 := ⟨by decide +kernel, rfl⟩
theorem eX12_forestNode_31 : vD cX12_forestNode 31 (.aload_n 0) 1 32 := ⟨by decide +kernel, rfl⟩
theorem eX12_forestNode_32 : vD cX12_forestNode 32 (.getfield 93) 3 35 := ⟨by decide +kernel, rfl⟩
theorem eX12_forestNode_35 : vD cX12_forestNode 35 (.iconst 0) 1 36 := ⟨by decide +kernel, rfl⟩
theorem eX12_forestNode_36 : vD cX12_forestNode 36 (.aload_n 0) 1 37 := ⟨by decide +kernel, rfl⟩
theorem eX12_forestNode_37 : vD cX12_forestNode 37 (.getfield 243) 3 40 := ⟨by decide +kernel, rfl⟩
theorem eX12_forestNode_40 : vD cX12_forestNode 40 (.aload 4) 2 42 := ⟨by decide +kernel, rfl⟩
theorem eX12_forestNode_42 : vD cX12_forestNode 42 (.iload 5) 2 44 := ⟨by decide +kernel, rfl⟩
theorem eX12_forestNode_44 : vD cX12_forestNode 44 (.invokevirtual 268) 3 47 := ⟨by decide +kernel, rfl⟩
theorem eX12_forestNode_47 : vD cX12_forestNode 47 .return_ 1 48 := ⟨by decide +kernel, rfl⟩
theorem eX12_forestNode_48 : vD cX12_forestNode 48 (.aload_n 0) 1 49 := ⟨by decide +kernel, rfl⟩
theorem eX12_forestNode_49 : vD cX12_forestNode 49 (.getfield 84) 3 52 := ⟨by decide +kernel, rfl⟩
theorem eX12_forestNode_52 : vD cX12_forestNode 52 (.iload_n 2) 1 53 := ⟨by decide +kernel, rfl⟩
theorem eX12_forestNode_53 : vD cX12_forestNode 53 .aaload 1 54 := ⟨by decide +kernel, rfl⟩
theorem eX12_forestNode_54 : vD cX12_forestNode 54 (.astore 6) 2 56 := ⟨by decide +kernel, rfl⟩
theorem eX12_forestNode_56 : vD cX12_forestNode 56 (.aload_n 0) 1 57 := ⟨by decide +kernel, rfl⟩
theorem eX12_forestNode_57 : vD cX12_forestNode 57 (.iload_n 1) 1 58 := ⟨by decide +kernel, rfl⟩
theorem eX12_forestNode_58 : vD cX12_forestNode 58 (.iload_n 2) 1 59 := ⟨by decide +kernel, rfl⟩
theorem eX12_forestNode_59 : vD cX12_forestNode 59 (.iconst 1) 1 60 := ⟨by decide +kernel, rfl⟩
theorem eX12_forestNode_60 : vD cX12_forestNode 60 .isub 1 61 := ⟨by decide +kernel, rfl⟩
theorem eX12_forestNode_61 : vD cX12_forestNode 61 (.iconst 2) 1 62 := ⟨by decide +kernel, rfl⟩
theorem eX12_forestNode_62 : vD cX12_forestNode 62 (.iload_n 3) 1 63 := ⟨by decide +kernel, rfl⟩
theorem eX12_forestNode_63 : vD cX12_forestNode 63 .imul 1 64 := ⟨by decide +kernel, rfl⟩
theorem eX12_forestNode_64 : vD cX12_forestNode 64 (.aload 6) 2 66 := ⟨by decide +kernel, rfl⟩
theorem eX12_forestNode_66 : vD cX12_forestNode 66 (.iconst 0) 1 67 := ⟨by decide +kernel, rfl⟩
theorem eX12_forestNode_67 : vD cX12_forestNode 67 (.invokevirtual 298) 3 70 := ⟨by decide +kernel, rfl⟩
theorem eX12_forestNode_70 : vD cX12_forestNode 70 (.aload_n 0) 1 71 := ⟨by decide +kernel, rfl⟩
theorem eX12_forestNode_71 : vD cX12_forestNode 71 (.iload_n 1) 1 72 := ⟨by decide +kernel, rfl⟩
theorem eX12_forestNode_72 : vD cX12_forestNode 72 (.iload_n 2) 1 73 := ⟨by decide +kernel, rfl⟩
theorem eX12_forestNode_73 : vD cX12_forestNode 73 (.iconst 1) 1 74 := ⟨by decide +kernel, rfl⟩
theorem eX12_forestNode_74 : vD cX12_forestNode 74 .isub 1 75 := ⟨by decide +kernel, rfl⟩
theorem eX12_forestNode_75 : vD cX12_forestNode 75 (.iconst 2) 1 76 := ⟨by decide +kernel, rfl⟩
theorem eX12_forestNode_76 : vD cX12_forestNode 76 (.iload_n 3) 1 77 := ⟨by decide +kernel, rfl⟩
theorem eX12_forestNode_77 : vD cX12_forestNode 77 .imul 1 78 := ⟨by decide +kernel, rfl⟩
theorem eX12_forestNode_78 : vD cX12_forestNode 78 (.iconst 1) 1 79 := ⟨by decide +kernel, rfl⟩
theorem eX12_forestNode_79 : vD cX12_forestNode 79 .iadd 1 80 := ⟨by decide +kernel, rfl⟩
theorem eX12_forestNode_80 : vD cX12_forestNode 80 (.aload 6) 2 82 := ⟨by decide +kernel, rfl⟩
theorem eX12_forestNode_82 : vD cX12_forestNode 82 (.aload_n 0) 1 83 := ⟨by decide +kernel, rfl⟩
theorem eX12_forestNode_83 : vD cX12_forestNode 83 (.getfield 243) 3 86 := ⟨by decide +kernel, rfl⟩
theorem eX12_forestNode_86 : vD cX12_forestNode 86 (.invokevirtual 298) 3 89 := ⟨by decide +kernel, rfl⟩
theorem eX12_forestNode_89 : vD cX12_forestNode 89 (.aload_n 0) 1 90 := ⟨by decide +kernel, rfl⟩
theorem eX12_forestNode_90 : vD cX12_forestNode 90 (.iconst 3) 1 91 := ⟨by decide +kernel, rfl⟩
theorem eX12_forestNode_91 : vD cX12_forestNode 91 (.iload_n 1) 1 92 := ⟨by decide +kernel, rfl⟩
theorem eX12_forestNode_92 : vD cX12_forestNode 92 (.iload_n 2) 1 93 := ⟨by decide +kernel, rfl⟩
theorem eX12_forestNode_93 : vD cX12_forestNode 93 (.iload_n 3) 1 94 := ⟨by decide +kernel, rfl⟩
theorem eX12_forestNode_94 : vD cX12_forestNode 94 (.invokevirtual 272) 3 97 := ⟨by decide +kernel, rfl⟩
theorem eX12_forestNode_97 : vD cX12_forestNode 97 (.aload_n 0) 1 98 := ⟨by decide +kernel, rfl⟩
theorem eX12_forestNode_98 : vD cX12_forestNode 98 (.aload 6) 2 100 := ⟨by decide +kernel, rfl⟩
theorem eX12_forestNode_100 : vD cX12_forestNode 100 (.iconst 0) 1 101 := ⟨by decide +kernel, rfl⟩
theorem eX12_forestNode_101 : vD cX12_forestNode 101 (.iconst 2) 1 102 := ⟨by decide +kernel, rfl⟩
theorem eX12_forestNode_102 : vD cX12_forestNode 102 (.aload_n 0) 1 103 := ⟨by decide +kernel, rfl⟩
theorem eX12_forestNode_103 : vD cX12_forestNode 103 (.getfield 243) 3 106 := ⟨by decide +kernel, rfl⟩
theorem eX12_forestNode_106 : vD cX12_forestNode 106 .imul 1 107 := ⟨by decide +kernel, rfl⟩
theorem eX12_forestNode_107 : vD cX12_forestNode 107 (.aload 4) 2 109 := ⟨by decide +kernel, rfl⟩
theorem eX12_forestNode_109 : vD cX12_forestNode 109 (.iload 5) 2 111 := ⟨by decide +kernel, rfl⟩
theorem eX12_forestNode_111 : vD cX12_forestNode 111 (.invokevirtual 268) 3 114 := ⟨by decide +kernel, rfl⟩
theorem eX12_forestNode_114 : vD cX12_forestNode 114 .return_ 1 115 := ⟨by decide +kernel, rfl⟩
theorem eX12_numberOf_0 : vD cX12_numberOf 0 (.iconst 0) 1 1 := ⟨by decide +kernel, rfl⟩
theorem eX12_numberOf_1 : vD cX12_numberOf 1 (.istore_n 2) 1 2 := ⟨by decide +kernel, rfl⟩
theorem eX12_numberOf_2 : vD cX12_numberOf 2 (.iload_n 1) 1 3 := ⟨by decide +kernel, rfl⟩
theorem eX12_numberOf_3 : vD cX12_numberOf 3 (.aload_n 0) 1 4 := ⟨by decide +kernel, rfl⟩
theorem eX12_numberOf_4 : vD cX12_numberOf 4 (.getfield 252) 3 7 := ⟨by decide +kernel, rfl⟩
theorem eX12_numberOf_7 : vD cX12_numberOf 7 .imul 1 8 := ⟨by decide +kernel, rfl⟩
theorem eX12_numberOf_8 : vD cX12_numberOf 8 (.istore_n 3) 1 9 := ⟨by decide +kernel, rfl⟩
theorem eX12_numberOf_9 : vD cX12_numberOf 9 (.iload_n 3) 1 10 := ⟨by decide +kernel, rfl⟩
theorem eX12_numberOf_10 : vD cX12_numberOf 10 (.iload_n 1) 1 11 := ⟨by decide +kernel, rfl⟩
theorem eX12_numberOf_11 : vD cX12_numberOf 11 (.aload_n 0) 1 12 := ⟨by decide +kernel, rfl⟩
theorem eX12_numberOf_12 : vD cX12_numberOf 12 (.getfield 252) 3 15 := ⟨by decide +kernel, rfl⟩
theorem eX12_numberOf_15 : vD cX12_numberOf 15 .imul 1 16 := ⟨by decide +kernel, rfl⟩
theorem eX12_numberOf_16 : vD cX12_numberOf 16 (.aload_n 0) 1 17 := ⟨by decide +kernel, rfl⟩
theorem eX12_numberOf_17 : vD cX12_numberOf 17 (.getfield 252) 3 20 := ⟨by decide +kernel, rfl⟩
theorem eX12_numberOf_20 : vD cX12_numberOf 20 .iadd 1 21 := ⟨by decide +kernel, rfl⟩
theorem eX12_numberOf_21 : vD cX12_numberOf 21 (.if_icmp .ge 33) 3 24 := ⟨by decide +kernel, rfl⟩
theorem eX12_numberOf_24 : vD cX12_numberOf 24 (.iload_n 2) 1 25 := ⟨by decide +kernel, rfl⟩
theorem eX12_numberOf_25 : vD cX12_numberOf 25 (.iconst 1) 1 26 := ⟨by decide +kernel, rfl⟩
theorem eX12_numberOf_26 : vD cX12_numberOf 26 .ishl 1 27 := ⟨by decide +kernel, rfl⟩
theorem eX12_numberOf_27 : vD cX12_numberOf 27 (.aload_n 0) 1 28 := ⟨by decide +kernel, rfl⟩
theorem eX12_numberOf_28 : vD cX12_numberOf 28 (.getfield 102) 3 31 := ⟨by decide +kernel, rfl⟩
theorem eX12_numberOf_31 : vD cX12_numberOf 31 (.iload_n 3) 1 32 := ⟨by decide +kernel, rfl⟩
theorem eX12_numberOf_32 : vD cX12_numberOf 32 (.bipush 8) 2 34 := ⟨by decide +kernel, rfl⟩
theorem eX12_numberOf_34 : vD cX12_numberOf 34 .idiv 1 35 := ⟨by decide +kernel, rfl⟩
theorem eX12_numberOf_35 : vD cX12_numberOf 35 .baload 1 36 := ⟨by decide +kernel, rfl⟩
theorem eX12_numberOf_36 : vD cX12_numberOf 36 (.bipush 7) 2 38 := ⟨by decide +kernel, rfl⟩
theorem eX12_numberOf_38 : vD cX12_numberOf 38 (.iload_n 3) 1 39 := ⟨by decide +kernel, rfl⟩
theorem eX12_numberOf_39 : vD cX12_numberOf 39 (.bipush 8) 2 41 := ⟨by decide +kernel, rfl⟩
theorem eX12_numberOf_41 : vD cX12_numberOf 41 .irem 1 42 := ⟨by decide +kernel, rfl⟩
theorem eX12_numberOf_42 : vD cX12_numberOf 42 .isub 1 43 := ⟨by decide +kernel, rfl⟩
theorem eX12_numberOf_43 : vD cX12_numberOf 43 .ishr 1 44 := ⟨by decide +kernel, rfl⟩
theorem eX12_numberOf_44 : vD cX12_numberOf 44 (.iconst 1) 1 45 := ⟨by decide +kernel, rfl⟩
theorem eX12_numberOf_45 : vD cX12_numberOf 45 .iand 1 46 := ⟨by decide +kernel, rfl⟩
theorem eX12_numberOf_46 : vD cX12_numberOf 46 .ior 1 47 := ⟨by decide +kernel, rfl⟩
theorem eX12_numberOf_47 : vD cX12_numberOf 47 (.istore_n 2) 1 48 := ⟨by decide +kernel, rfl⟩
theorem eX12_numberOf_48 : vD cX12_numberOf 48 (.iinc 3 1) 3 51 := ⟨by decide +kernel, rfl⟩
theorem eX12_numberOf_51 : vD cX12_numberOf 51 (.goto (-42)) 3 54 := ⟨by decide +kernel, rfl⟩
theorem eX12_numberOf_54 : vD cX12_numberOf 54 (.iload_n 2) 1 55 := ⟨by decide +kernel, rfl⟩
theorem eX12_numberOf_55 : vD cX12_numberOf 55 .ireturn 1 56 := ⟨by decide +kernel, rfl⟩
theorem eX12_signForest_0 : vD cX12_signForest 0 (.iload_n 3) 1 1 := ⟨by decide +kernel, rfl⟩
theorem eX12_signForest_1 : vD cX12_signForest 1 (.istore 4) 2 3 := ⟨by decide +kernel, rfl⟩
theorem eX12_signForest_3 : vD cX12_signForest 3 (.iconst 0) 1 4 := ⟨by decide +kernel, rfl⟩
theorem eX12_signForest_4 : vD cX12_signForest 4 (.istore 5) 2 6 := ⟨by decide +kernel, rfl⟩
theorem eX12_signForest_6 : vD cX12_signForest 6 (.iload 5) 2 8 := ⟨by decide +kernel, rfl⟩
theorem eX12_signForest_8 : vD cX12_signForest 8 (.aload_n 0) 1 9 := ⟨by decide +kernel, rfl⟩
theorem eX12_signForest_9 : vD cX12_signForest 9 (.getfield 255) 3 12 := ⟨by decide +kernel, rfl⟩
theorem eX12_signForest_12 : vD cX12_signForest 12 (.if_icmp .ge 103) 3 15 := ⟨by decide +kernel, rfl⟩
theorem eX12_signForest_15 : vD cX12_signForest 15 (.iload 5) 2 17 := ⟨by decide +kernel, rfl⟩
theorem eX12_signForest_17 : vD cX12_signForest 17 (.aload_n 0) 1 18 := ⟨by decide +kernel, rfl⟩
theorem eX12_signForest_18 : vD cX12_signForest 18 (.getfield 252) 3 21 := ⟨by decide +kernel, rfl⟩
theorem eX12_signForest_21 : vD cX12_signForest 21 .ishl 1 22 := ⟨by decide +kernel, rfl⟩
theorem eX12_signForest_22 : vD cX12_signForest 22 (.aload_n 0) 1 23 := ⟨by decide +kernel, rfl⟩
theorem eX12_signForest_23 : vD cX12_signForest 23 (.iload 5) 2 25 := ⟨by decide +kernel, rfl⟩
theorem eX12_signForest_25 : vD cX12_signForest 25 (.invokevirtual 302) 3 28 := ⟨by decide +kernel, rfl⟩
theorem eX12_signForest_28 : vD cX12_signForest 28 .iadd 1 29 := ⟨by decide +kernel, rfl⟩
theorem eX12_signForest_29 : vD cX12_signForest 29 (.istore 6) 2 31 := ⟨by decide +kernel, rfl⟩
theorem eX12_signForest_31 : vD cX12_signForest 31 (.aload_n 0) 1 32 := ⟨by decide +kernel, rfl⟩
theorem eX12_signForest_32 : vD cX12_signForest 32 (.bipush 6) 2 34 := ⟨by decide +kernel, rfl⟩
theorem eX12_signForest_34 : vD cX12_signForest 34 (.iload_n 1) 1 35 := ⟨by decide +kernel, rfl⟩
theorem eX12_signForest_35 : vD cX12_signForest 35 (.iconst 0) 1 36 := ⟨by decide +kernel, rfl⟩
theorem eX12_signForest_36 : vD cX12_signForest 36 (.iload 6) 2 38 := ⟨by decide +kernel, rfl⟩
theorem eX12_signForest_38 : vD cX12_signForest 38 (.invokevirtual 272) 3 41 := ⟨by decide +kernel, rfl⟩
theorem eX12_signForest_41 : vD cX12_signForest 41 (.aload_n 0) 1 42 := ⟨by decide +kernel, rfl⟩
theorem eX12_signForest_42 : vD cX12_signForest 42 (.aload_n 2) 1 43 := ⟨by decide +kernel, rfl⟩
theorem eX12_signForest_43 : vD cX12_signForest 43 (.iload 4) 2 45 := ⟨by decide +kernel, rfl⟩
theorem eX12_signForest_45 : vD cX12_signForest 45 (.invokevirtual 276) 3 48 := ⟨by decide +kernel, rfl⟩
theorem eX12_signForest_48 : vD cX12_signForest 48 (.iconst 0) 1 49 := ⟨by decide +kernel, rfl⟩
theorem eX12_signForest_49 : vD cX12_signForest 49 (.istore 7) 2 51 := ⟨by decide +kernel, rfl⟩
theorem eX12_signForest_51 : vD cX12_signForest 51 (.iload 7) 2 53 := ⟨by decide +kernel, rfl⟩
theorem eX12_signForest_53 : vD cX12_signForest 53 (.aload_n 0) 1 54 := ⟨by decide +kernel, rfl⟩
theorem eX12_signForest_54 : vD cX12_signForest 54 (.getfield 252) 3 57 := ⟨by decide +kernel, rfl⟩
theorem eX12_signForest_57 : vD cX12_signForest 57 (.if_icmp .ge 36) 3 60 := ⟨by decide +kernel, rfl⟩
theorem eX12_signForest_60 : vD cX12_signForest 60 (.aload_n 0) 1 61 := ⟨by decide +kernel, rfl⟩
theorem eX12_signForest_61 : vD cX12_signForest 61 (.iload_n 1) 1 62 := ⟨by decide +kernel, rfl⟩
theorem eX12_signForest_62 : vD cX12_signForest 62 (.iload 7) 2 64 := ⟨by decide +kernel, rfl⟩
theorem eX12_signForest_64 : vD cX12_signForest 64 (.iload 6) 2 66 := ⟨by decide +kernel, rfl⟩
theorem eX12_signForest_66 : vD cX12_signForest 66 (.iload 7) 2 68 := ⟨by decide +kernel, rfl⟩
theorem eX12_signForest_68 : vD cX12_signForest 68 .ishr 1 69 := ⟨by decide +kernel, rfl⟩
theorem eX12_signForest_69 : vD cX12_signForest 69 (.iconst 1) 1 70 := ⟨by decide +kernel, rfl⟩
theorem eX12_signForest_70 : vD cX12_signForest 70 .ixor 1 71 := ⟨by decide +kernel, rfl⟩
theorem eX12_signForest_71 : vD cX12_signForest 71 (.aload_n 2) 1 72 := ⟨by decide +kernel, rfl⟩
theorem eX12_signForest_72 : vD cX12_signForest 72 (.iload 4) 2 74 := ⟨by decide +kernel, rfl⟩
theorem eX12_signForest_74 : vD cX12_signForest 74 (.iconst 1) 1 75 := ⟨by decide +kernel, rfl⟩
theorem eX12_signForest_75 : vD cX12_signForest 75 (.iload 7) 2 77 := ⟨by decide +kernel, rfl⟩
theorem eX12_signForest_77 : vD cX12_signForest 77 .iadd 1 78 := ⟨by decide +kernel, rfl⟩
theorem eX12_signForest_78 : vD cX12_signForest 78 (.aload_n 0) 1 79 := ⟨by decide +kernel, rfl⟩
theorem eX12_signForest_79 : vD cX12_signForest 79 (.getfield 243) 3 82 := ⟨by decide +kernel, rfl⟩
theorem eX12_signForest_82 : vD cX12_signForest 82 .imul 1 83 := ⟨by decide +kernel, rfl⟩
theorem eX12_signForest_83 : vD cX12_signForest 83 .iadd 1 84 := ⟨by decide +kernel, rfl⟩
theorem eX12_signForest_84 : vD cX12_signForest 84 (.invokevirtual 298) 3 87 := ⟨by decide +kernel, rfl⟩
theorem eX12_signForest_87 : vD cX12_signForest 87 (.iinc 7 1) 3 90 := ⟨by decide +kernel, rfl⟩
theorem eX12_signForest_90 : vD cX12_signForest 90 (.goto (-39)) 3 93 := ⟨by decide +kernel, rfl⟩
theorem eX12_signForest_93 : vD cX12_signForest 93 (.iload 4) 2 95 := ⟨by decide +kernel, rfl⟩
theorem eX12_signForest_95 : vD cX12_signForest 95 (.iconst 1) 1 96 := ⟨by decide +kernel, rfl⟩
theorem eX12_signForest_96 : vD cX12_signForest 96 (.aload_n 0) 1 97 := ⟨by decide +kernel, rfl⟩
theorem eX12_signForest_97 : vD cX12_signForest 97 (.getfield 252) 3 100 := ⟨by decide +kernel, rfl⟩
theorem eX12_signForest_100 : vD cX12_signForest 100 .iadd 1 101 := ⟨by decide +kernel, rfl⟩
theorem eX12_signForest_101 : vD cX12_signForest 101 (.aload_n 0) 1 102 := ⟨by decide +kernel, rfl⟩
theorem eX12_signForest_102 : vD cX12_signForest 102 (.getfield 243) 3 105 := ⟨by decide +kernel, rfl⟩
theorem eX12_signForest_105 : vD cX12_signForest 105 .imul 1 106 := ⟨by decide +kernel, rfl⟩
theorem eX12_signForest_106 : vD cX12_signForest 106 .iadd 1 107 := ⟨by decide +kernel, rfl⟩
theorem eX12_signForest_107 : vD cX12_signForest 107 (.istore 4) 2 109 := ⟨by decide +kernel, rfl⟩
theorem eX12_signForest_109 : vD cX12_signForest 109 (.iinc 5 1) 3 112 := ⟨by decide +kernel, rfl⟩
theorem eX12_signForest_112 : vD cX12_signForest 112 (.goto (-106)) 3 115 := ⟨by decide +kernel, rfl⟩
theorem eX12_signForest_115 : vD cX12_signForest 115 .return_ 1 116 := ⟨by decide +kernel, rfl⟩
theorem eX12_rootOfForest_0 : vD cX12_rootOfForest 0 (.iload_n 3) 1 1 := ⟨by decide +kernel, rfl⟩
theorem eX12_rootOfForest_1 : vD cX12_rootOfForest 1 (.istore 4) 2 3 := ⟨by decide +kernel, rfl⟩
theorem eX12_rootOfForest_3 : vD cX12_rootOfForest 3 (.iconst 0) 1 4 := ⟨by decide +kernel, rfl⟩
theorem eX12_rootOfForest_4 : vD cX12_rootOfForest 4 (.istore 5) 2 6 := ⟨by decide +kernel, rfl⟩
theorem eX12_rootOfForest_6 : vD cX12_rootOfForest 6 (.iload 5) 2 8 := ⟨by decide +kernel, rfl⟩
theorem eX12_rootOfForest_8 : vD cX12_rootOfForest 8 (.aload_n 0) 1 9 := ⟨by decide +kernel, rfl⟩
theorem eX12_rootOfForest_9 : vD cX12_rootOfForest 9 (.getfield 255) 3 12 := ⟨by decide +kernel, rfl⟩
theorem eX12_rootOfForest_12 : vD cX12_rootOfForest 12 (.if_icmp .ge 109) 3 15 := ⟨by decide +kernel, rfl⟩
theorem eX12_rootOfForest_15 : vD cX12_rootOfForest 15 (.iload 5) 2 17 := ⟨by decide +kernel, rfl⟩
theorem eX12_rootOfForest_17 : vD cX12_rootOfForest 17 (.aload_n 0) 1 18 := ⟨by decide +kernel, rfl⟩
theorem eX12_rootOfForest_18 : vD cX12_rootOfForest 18 (.getfield 252) 3 21 := ⟨by decide +kernel, rfl⟩
theorem eX12_rootOfForest_21 : vD cX12_rootOfForest 21 .ishl 1 22 := ⟨by decide +kernel, rfl⟩
theorem eX12_rootOfForest_22 : vD cX12_rootOfForest 22 (.aload_n 0) 1 23 := ⟨by decide +kernel, rfl⟩
theorem eX12_rootOfForest_23 : vD cX12_rootOfForest 23 (.iload 5) 2 25 := ⟨by decide +kernel, rfl⟩
theorem eX12_rootOfForest_25 : vD cX12_rootOfForest 25 (.invokevirtual 302) 3 28 := ⟨by decide +kernel, rfl⟩
theorem eX12_rootOfForest_28 : vD cX12_rootOfForest 28 .iadd 1 29 := ⟨by decide +kernel, rfl⟩
theorem eX12_rootOfForest_29 : vD cX12_rootOfForest 29 (.istore 6) 2 31 := ⟨by decide +kernel, rfl⟩
theorem eX12_rootOfForest_31 : vD cX12_rootOfForest 31 (.aload_n 0) 1 32 := ⟨by decide +kernel, rfl⟩
theorem eX12_rootOfForest_32 : vD cX12_rootOfForest 32 (.iconst 3) 1 33 := ⟨by decide +kernel, rfl⟩
theorem eX12_rootOfForest_33 : vD cX12_rootOfForest 33 (.iload_n 1) 1 34 := ⟨by decide +kernel, rfl⟩
theorem eX12_rootOfForest_34 : vD cX12_rootOfForest 34 (.iconst 0) 1 35 := ⟨by decide +kernel, rfl⟩
theorem eX12_rootOfForest_35 : vD cX12_rootOfForest 35 (.iload 6) 2 37 := ⟨by decide +kernel, rfl⟩
theorem eX12_rootOfForest_37 : vD cX12_rootOfForest 37 (.invokevirtual 272) 3 40 := ⟨by decide +kernel, rfl⟩
theorem eX12_rootOfForest_40 : vD cX12_rootOfForest 40 (.aload_n 0) 1 41 := ⟨by decide +kernel, rfl⟩
theorem eX12_rootOfForest_41 : vD cX12_rootOfForest 41 (.aload_n 2) 1 42 := ⟨by decide +kernel, rfl⟩
theorem eX12_rootOfForest_42 : vD cX12_rootOfForest 42 (.iload 4) 2 44 := ⟨by decide +kernel, rfl⟩
theorem eX12_rootOfForest_44 : vD cX12_rootOfForest 44 (.aload_n 0) 1 45 := ⟨by decide +kernel, rfl⟩
theorem eX12_rootOfForest_45 : vD cX12_rootOfForest 45 (.getfield 243) 3 48 := ⟨by decide +kernel, rfl⟩
theorem eX12_rootOfForest_48 : vD cX12_rootOfForest 48 (.aload_n 0) 1 49 := ⟨by decide +kernel, rfl⟩
theorem eX12_rootOfForest_49 : vD cX12_rootOfForest 49 (.getfield 96) 3 52 := ⟨by decide +kernel, rfl⟩
theorem eX12_rootOfForest_52 : vD cX12_rootOfForest 52 (.iconst 0) 1 53 := ⟨by decide +kernel, rfl⟩
theorem eX12_rootOfForest_53 : vD cX12_rootOfForest 53 (.invokevirtual 268) 3 56 := ⟨by decide +kernel, rfl⟩
theorem eX12_rootOfForest_56 : vD cX12_rootOfForest 56 (.aload_n 0) 1 57 := ⟨by decide +kernel, rfl⟩
theorem eX12_rootOfForest_57 : vD cX12_rootOfForest 57 (.iconst 3) 1 58 := ⟨by decide +kernel, rfl⟩
theorem eX12_rootOfForest_58 : vD cX12_rootOfForest 58 (.iload_n 1) 1 59 := ⟨by decide +kernel, rfl⟩
theorem eX12_rootOfForest_59 : vD cX12_rootOfForest 59 (.iload 6) 2 61 := ⟨by decide +kernel, rfl⟩
theorem eX12_rootOfForest_61 : vD cX12_rootOfForest 61 (.aload_n 0) 1 62 := ⟨by decide +kernel, rfl⟩
theorem eX12_rootOfForest_62 : vD cX12_rootOfForest 62 (.getfield 252) 3 65 := ⟨by decide +kernel, rfl⟩
theorem eX12_rootOfForest_65 : vD cX12_rootOfForest 65 (.aload_n 2) 1 66 := ⟨by decide +kernel, rfl⟩
theorem eX12_rootOfForest_66 : vD cX12_rootOfForest 66 (.iload 4) 2 68 := ⟨by decide +kernel, rfl⟩
theorem eX12_rootOfForest_68 : vD cX12_rootOfForest 68 (.aload_n 0) 1 69 := ⟨by decide +kernel, rfl⟩
theorem eX12_rootOfForest_69 : vD cX12_rootOfForest 69 (.getfield 243) 3 72 := ⟨by decide +kernel, rfl⟩
theorem eX12_rootOfForest_72 : vD cX12_rootOfForest 72 .iadd 1 73 := ⟨by decide +kernel, rfl⟩
theorem eX12_rootOfForest_73 : vD cX12_rootOfForest 73 (.invokevirtual 295) 3 76 := ⟨by decide +kernel, rfl⟩
theorem eX12_rootOfForest_76 : vD cX12_rootOfForest 76 (.aload_n 0) 1 77 := ⟨by decide +kernel, rfl⟩
theorem eX12_rootOfForest_77 : vD cX12_rootOfForest 77 (.getfield 96) 3 80 := ⟨by decide +kernel, rfl⟩
theorem eX12_rootOfForest_80 : vD cX12_rootOfForest 80 (.iconst 0) 1 81 := ⟨by decide +kernel, rfl⟩
theorem eX12_rootOfForest_81 : vD cX12_rootOfForest 81 (.aload_n 0) 1 82 := ⟨by decide +kernel, rfl⟩
theorem eX12_rootOfForest_82 : vD cX12_rootOfForest 82 (.getfield 90) 3 85 := ⟨by decide +kernel, rfl⟩
theorem eX12_rootOfForest_85 : vD cX12_rootOfForest 85 (.iload 5) 2 87 := ⟨by decide +kernel, rfl⟩
theorem eX12_rootOfForest_87 : vD cX12_rootOfForest 87 (.aload_n 0) 1 88 := ⟨by decide +kernel, rfl⟩
theorem eX12_rootOfForest_88 : vD cX12_rootOfForest 88 (.getfield 243) 3 91 := ⟨by decide +kernel, rfl⟩
theorem eX12_rootOfForest_91 : vD cX12_rootOfForest 91 .imul 1 92 := ⟨by decide +kernel, rfl⟩
theorem eX12_rootOfForest_92 : vD cX12_rootOfForest 92 (.aload_n 0) 1 93 := ⟨by decide +kernel, rfl⟩
theorem eX12_rootOfForest_93 : vD cX12_rootOfForest 93 (.getfield 243) 3 96 := ⟨by decide +kernel, rfl⟩
theorem eX12_rootOfForest_96 : vD cX12_rootOfForest 96 (.invokestatic 239) 3 99 := ⟨by decide +kernel, rfl⟩
theorem eX12_rootOfForest_99 : vD cX12_rootOfForest 99 (.iload 4) 2 101 := ⟨by decide +kernel, rfl⟩
theorem eX12_rootOfForest_101 : vD cX12_rootOfForest 101 (.iconst 1) 1 102 := ⟨by decide +kernel, rfl⟩
theorem eX12_rootOfForest_102 : vD cX12_rootOfForest 102 (.aload_n 0) 1 103 := ⟨by decide +kernel, rfl⟩
theorem eX12_rootOfForest_103 : vD cX12_rootOfForest 103 (.getfield 252) 3 106 := ⟨by decide +kernel, rfl⟩
theorem eX12_rootOfForest_106 : vD cX12_rootOfForest 106 .iadd 1 107 := ⟨by decide +kernel, rfl⟩
theorem eX12_rootOfForest_107 : vD cX12_rootOfForest 107 (.aload_n 0) 1 108 := ⟨by decide +kernel, rfl⟩
theorem eX12_rootOfForest_108 : vD cX12_rootOfForest 108 (.getfield 243) 3 111 := ⟨by decide +kernel, rfl⟩
theorem eX12_rootOfForest_111 : vD cX12_rootOfForest 111 .imul 1 112 := ⟨by decide +kernel, rfl⟩
theorem eX12_rootOfForest_112 : vD cX12_rootOfForest 112 .iadd 1 113 := ⟨by decide +kernel, rfl⟩
theorem eX12_rootOfForest_113 : vD cX12_rootOfForest 113 (.istore 4) 2 115 := ⟨by decide +kernel, rfl⟩
theorem eX12_rootOfForest_115 : vD cX12_rootOfForest 115 (.iinc 5 1) 3 118 := ⟨by decide +kernel, rfl⟩
theorem eX12_rootOfForest_118 : vD cX12_rootOfForest 118 (.goto (-112)) 3 121 := ⟨by decide +kernel, rfl⟩
theorem eX12_rootOfForest_121 : vD cX12_rootOfForest 121 (.aload_n 0) 1 122 := ⟨by decide +kernel, rfl⟩
theorem eX12_rootOfForest_122 : vD cX12_rootOfForest 122 (.iconst 4) 1 123 := ⟨by decide +kernel, rfl⟩
theorem eX12_rootOfForest_123 : vD cX12_rootOfForest 123 (.iload_n 1) 1 124 := ⟨by decide +kernel, rfl⟩
theorem eX12_rootOfForest_124 : vD cX12_rootOfForest 124 (.iconst 0) 1 125 := ⟨by decide +kernel, rfl⟩
theorem eX12_rootOfForest_125 : vD cX12_rootOfForest 125 (.iconst 0) 1 126 := ⟨by decide +kernel, rfl⟩
theorem eX12_rootOfForest_126 : vD cX12_rootOfForest 126 (.invokevirtual 272) 3 129 := ⟨by decide +kernel, rfl⟩
theorem eX12_rootOfForest_129 : vD cX12_rootOfForest 129 (.aload_n 0) 1 130 := ⟨by decide +kernel, rfl⟩
theorem eX12_rootOfForest_130 : vD cX12_rootOfForest 130 (.aload_n 0) 1 131 := ⟨by decide +kernel, rfl⟩
theorem eX12_rootOfForest_131 : vD cX12_rootOfForest 131 (.getfield 90) 3 134 := ⟨by decide +kernel, rfl⟩
theorem eX12_rootOfForest_134 : vD cX12_rootOfForest 134 (.iconst 0) 1 135 := ⟨by decide +kernel, rfl⟩
theorem eX12_rootOfForest_135 : vD cX12_rootOfForest 135 (.aload_n 0) 1 136 := ⟨by decide +kernel, rfl⟩
theorem eX12_rootOfForest_136 : vD cX12_rootOfForest 136 (.getfield 255) 3 139 := ⟨by decide +kernel, rfl⟩
theorem eX12_rootOfForest_139 : vD cX12_rootOfForest 139 (.aload_n 0) 1 140 := ⟨by decide +kernel, rfl⟩
theorem eX12_rootOfForest_140 : vD cX12_rootOfForest 140 (.getfield 243) 3 143 := ⟨by decide +kernel, rfl⟩
theorem eX12_rootOfForest_143 : vD cX12_rootOfForest 143 .imul 1 144 := ⟨by decide +kernel, rfl⟩
theorem eX12_rootOfForest_144 : vD cX12_rootOfForest 144 (.aload_n 0) 1 145 := ⟨by decide +kernel, rfl⟩
theorem eX12_rootOfForest_145 : vD cX12_rootOfForest 145 (.getfield 96) 3 148 := ⟨by decide +kernel, rfl⟩
theorem eX12_rootOfForest_148 : vD cX12_rootOfForest 148 (.iconst 0) 1 149 := ⟨by decide +kernel, rfl⟩
theorem eX12_rootOfForest_149 : vD cX12_rootOfForest 149 (.invokevirtual 268) 3 152 := ⟨by decide +kernel, rfl⟩
theorem eX12_rootOfForest_152 : vD cX12_rootOfForest 152 .return_ 1 153 := ⟨by decide +kernel, rfl⟩

theorem ix_or1 {x y : Int32} {a b : Nat} (hx : x = nI (a * 2)) (hy : y = nI b) (ha : a < 2 ^ 30) (hb : b < 2) : x ||| y = nI (a * 2 + b) := by
  subst hx; subst hy
  have h1 := pk_tn (n := a * 2) (by omega)
  have h2 := pk_tn (n := b) (by omega)
  have h3 : a * 2 ||| b = a * 2 + b := by
    have := Nat.shiftLeft_add_eq_or_of_lt (i := 1) (b := b) (by omega) a
    rw [Nat.shiftLeft_eq] at this
    exact this.symm
  refine Int32.toBitVec_inj.mp (BitVec.eq_of_toNat_eq ?_)
  rw [Int32.toBitVec_or, BitVec.toNat_or, h1, h2, h3, pk_tn (by omega)]
def bitL (T : List Int32) (b : Nat) : Nat := (T.getD (b / 8) 0 >>> (nI (7 - b % 8) &&& 31)).toBitVec.toNat % 2 ^ 1
theorem bitL_2 {T : List Int32} {b : Nat} : bitL T b < 2 := by unfold bitL; omega
def nmL (T : List Int32) (b : Nat) : Nat → Nat
  | 0 => 0
  | q + 1 => nmL T b q * 2 + bitL T (b + q)
theorem nmL_lt {T : List Int32} {b : Nat} : ∀ q, nmL T b q < 2 ^ q
  | 0 => Nat.one_pos
  | q + 1 => by
    have h := nmL_lt (T := T) (b := b) q
    have g := bitL_2 (T := T) (b := b + q)
    show nmL T b q * 2 + bitL T (b + q) < 2 ^ (q + 1)
    rw [Nat.pow_succ]
    omega
/-- the leaf of tree j of the forest, counted through all trees -/
def lfN (T : List Int32) (aa j : Nat) : Nat := j * 2 ^ aa + nmL T (j * aa) aa
theorem lfN_lt {T : List Int32} {aa j : Nat} (hj : j < 64) (ha : aa ≤ 14) : lfN T aa j < 2 ^ 20 := by
  have h := nmL_lt (T := T) (b := j * aa) aa
  have g : 2 ^ aa ≤ 2 ^ 14 := Nat.pow_le_pow_right (by decide) ha
  have e : (j + 1) * 2 ^ aa ≤ 64 * 2 ^ 14 := Nat.mul_le_mul (by omega) g
  rw [Nat.succ_mul] at e
  unfold lfN
  omega
section M23
variable {G : vG} {B : Nat} {l : Launch} {ad : Nat → Nat} {N : Nat} {θ : tT} {x : Nat → Int32} {σ : nS} {sh : Bool} {nn : Nat} {P H K : List Int32}
def fnL (F : fT) (K : List Int32) (i : Nat) : Nat → Nat → List Int32
  | 0, j => F 3 i 0 j (F 6 i 0 j K)
  | z + 1, j => F 3 i (z + 1) j (fnL F K i z (2 * j) ++ fnL F K i z (2 * j + 1))
theorem fnL_len {K : List Int32} {i : Nat} : ∀ z j, (fnL (fF θ sh nn P H) K i z j).length = nn
  | 0, _ => fF_len _ _ _ _ _
  | _ + 1, _ => fF_len _ _ _ _ _
set_option maxRecDepth 100000 in
set_option maxHeartbeats 4000000 in
theorem rc_forestNode0 (I : nI1 ad N) (hN : ∀ k, k < 74 → k < N) (hC : RC G ad θ x sh nn P H K σ) {ko no : Nat} (hko : rLn ko = no) (ho0 : 0 < no) (hfr : ko ≠ 28 ∧ ko ≠ 37 ∧ ko ≠ 38) (hk32 : ko ≠ 32) (i j b : Nat) (hb : b + nn ≤ no) : nOk G B l ad N yX12_forestNode cX12_forestNode 7 none 8 0 0 [.ref (ad 49), .int (nI i), .int (nI 0), .int (nI j), .ref (ad ko), .int (nI b)] σ (fun r σ' => r = none ∧ RC G ad θ x sh nn P H K σ' ∧ (∀ k, ¬ (13 ≤ k ∧ k ≤ 17 ∨ k = 49 ∨ k = 28 ∨ k = 32 ∨ (58 < k ∧ k ≤ 58 + 0) ∨ k = ko) → σ' k = σ k) ∧ bt σ' ko = wr (bt σ ko) b (fnL (fF θ sh nn P H) K i 0 j)) := by
  refine vOk.of (by decide +kernel) (Nat.le_of_ble_eq_true rfl) ?_
  intro p e s m args below meth c C
  refine v_eq (lv' := [(0, .ref (ad 49)), (1, .int (nI i)), (2, .int (nI 0)), (3, .int (nI j)), (4, .ref (ad ko)), (5, .int (nI b))]) rfl rfl rfl ?_
  have hn := hC.qnn
  have hoh := rLn_h (k := ko) (by omega)
  refine v_iload_n C eX12_forestNode_0 rfl 2 rfl ?_
  refine v_if_ne (tgt := 48) C eX12_forestNode_1 (by decide) (fun h => absurd (ix_eq (a := 0) (b := 0) (rfl : nI 0 = nI 0) (rfl : (0 : Int32) = nI 0) (by omega) (by omega) (by omega)) h) (fun _ => ?_)
  refine v_aload_n C eX12_forestNode_4 rfl 0 rfl ?_
  refine v_bipush (v := (6 : Int32)) C eX12_forestNode_5 (by decide) ?_
  refine v_iload_n C eX12_forestNode_7 rfl 1 rfl ?_
  refine v_iconst (v := (0 : Int32)) C eX12_forestNode_8 (by decide) ?_
  refine v_iload_n C eX12_forestNode_9 rfl 3 rfl ?_
  refine n_callV (As := [.int (nI 6), .int (nI i), .int (nI 0), .int (nI j)]) (rest := []) C I mX12_272 (rc_type I hN hC 6 i 0 j) (hN 49 (by decide)) hC.s.obj rfl (by decide) (by decide) ⟨by decide, by decide⟩ rfl (vi_c (rfl : nI j = nI j) (vi_c (rfl : (0 : Int32) = nI 0) (vi_c (rfl : nI i = nI i) (vi_c (rfl : (6 : Int32) = nI 6) rfl)))) (Nat.le_of_ble_eq_true rfl) eX12_forestNode_10 (fun r σ1 hp => ?_)
  obtain ⟨rfl, hC1, hk1, hY1⟩ := hp
  refine v_aload_n C eX12_forestNode_13 rfl 0 rfl ?_
  refine v_aload_n C eX12_forestNode_14 rfl 0 rfl ?_
  refine n_get C I fX12_93_X12 eX12_forestNode_15 (hN 49 (by decide)) hC1.s.obj rfl ?_
  refine v_iconst (v := (0 : Int32)) C eX12_forestNode_18 (by decide) ?_
  refine n_callV (As := [.ref (ad 32), .int (nI 0)]) (rest := []) C I mX12_276 (rc_pseudo I hN hC1 hY1 (ko := 32) (no := 32) rfl (by decide) (by decide) 0 (by omega)) (hN 49 (by decide)) hC1.s.obj rfl (by decide) (by decide) ⟨by decide, by decide⟩ rfl (vi_c (rfl : (0 : Int32) = nI 0) (vi_k rfl)) (Nat.le_of_ble_eq_true rfl) eX12_forestNode_19 (fun r σ2 hp => ?_)
  obtain ⟨rfl, hC2, hk2, hv2⟩ := hp
  refine v_aload_n C eX12_forestNode_22 rfl 0 rfl ?_
  refine v_iconst (v := (3 : Int32)) C eX12_forestNode_23 (by decide) ?_
  refine v_iload_n C eX12_forestNode_24 rfl 1 rfl ?_
  refine v_iconst (v := (0 : Int32)) C eX12_forestNode_25 (by decide) ?_
  refine v_iload_n C eX12_forestNode_26 rfl 3 rfl ?_
  refine n_callV (As := [.int (nI 3), .int (nI i), .int (nI 0), .int (nI j)]) (rest := []) C I mX12_272 (rc_type I hN hC2 3 i 0 j) (hN 49 (by decide)) hC2.s.obj rfl (by decide) (by decide) ⟨by decide, by decide⟩ rfl (vi_c (rfl : nI j = nI j) (vi_c (rfl : (0 : Int32) = nI 0) (vi_c (rfl : nI i = nI i) (vi_c (rfl : (3 : Int32) = nI 3) rfl)))) (Nat.le_of_ble_eq_true rfl) eX12_forestNode_27 (fun r σ3 hp => ?_)
  obtain ⟨rfl, hC3, hk3, hY3⟩ := hp
  refine v_aload_n C eX12_forestNode_30 rfl 0 rfl ?_
  refine v_aload_n C eX12_forestNode_31 rfl 0 rfl ?_
  refine n_get C I fX12_93_X12 eX12_forestNode_32 (hN 49 (by decide)) hC3.s.obj rfl ?_
  refine v_iconst (v := (0 : Int32)) C eX12_forestNode_35 (by decide) ?_
  refine v_aload_n C eX12_forestNode_36 rfl 0 rfl ?_
  refine n_get C I fX12_243_X12 eX12_forestNode_37 (hN 49 (by decide)) hC3.s.obj rfl ?_
  refine v_aload C eX12_forestNode_40 4 rfl ?_
  refine v_iload C eX12_forestNode_42 5 rfl ?_
  refine n_callV (As := [.ref (ad 32), .int (nI 0), .int (nI nn), .ref (ad ko), .int (nI b)]) (rest := []) C I mX12_268 (rc_hashed I hN hC3 hY3 (kx := 32) (nx := 32) rfl (by decide) hko ho0 hfr 0 nn b (by omega) hb) (hN 49 (by decide)) hC3.s.obj rfl (by decide) (by decide) ⟨by decide, by decide⟩ rfl (vi_c (rfl : nI b = nI b) (vi_k (vi_c hC3.n (vi_c (rfl : (0 : Int32) = nI 0) (vi_k rfl))))) (Nat.le_of_ble_eq_true rfl) eX12_forestNode_44 (fun r σ4 hp => ?_)
  obtain ⟨rfl, hC4, hk4, hv4⟩ := hp
  refine n_vret C rfl eX12_forestNode_47 ⟨rfl, hC4, fun k hk => (hk4 k (by omega)).trans ((hk3 k (by omega)).trans ((hk2 k (by omega)).trans (hk1 k (by omega)))), ?_⟩
  rw [hv4, bt_same (hk3 ko hfr.1), bt_same (hk2 ko (by omega)), bt_same (hk1 ko hfr.1), bt_same (hk3 32 (by decide)), hv2, sl_wr' (fF_len _ _ _ _ _)]
  rfl

set_option maxRecDepth 100000 in
set_option maxHeartbeats 4000000 in
theorem rc_forestNode1 (I : nI1 ad N) (hN : ∀ k, k < 74 → k < N) {z i : Nat} (ih : ∀ {σ : nS}, RC G ad θ x sh nn P H K σ → ∀ {ko no : Nat}, rLn ko = no → 0 < no → (ko ≠ 28 ∧ ko ≠ 37 ∧ ko ≠ 38) → ko ≠ 32 → (ko < 58 ∨ 58 + z < ko) → ∀ (j b : Nat), (j + 1) * 2 ^ z ≤ 2 ^ 30 → b + nn ≤ no → nOk G B l ad N yX12_forestNode cX12_forestNode 7 none (8 + z) 0 0 [.ref (ad 49), .int (nI i), .int (nI z), .int (nI j), .ref (ad ko), .int (nI b)] σ (fun r σ' => r = none ∧ RC G ad θ x sh nn P H K σ' ∧ (∀ k, ¬ (13 ≤ k ∧ k ≤ 17 ∨ k = 49 ∨ k = 28 ∨ k = 32 ∨ (58 < k ∧ k ≤ 58 + z) ∨ k = ko) → σ' k = σ k) ∧ bt σ' ko = wr (bt σ ko) b (fnL (fF θ sh nn P H) K i z j))) (hC : RC G ad θ x sh nn P H K σ) {ko no : Nat} (hko : rLn ko = no) (ho0 : 0 < no) (hfr : ko ≠ 28 ∧ ko ≠ 37 ∧ ko ≠ 38) (hk32 : ko ≠ 32) (hkp : ko < 58 ∨ 58 + (z + 1) < ko) (hz : z + 1 < 16) (j b : Nat) (hj : (j + 1) * 2 ^ (z + 1) ≤ 2 ^ 30) (hb : b + nn ≤ no) : nOk G B l ad N yX12_forestNode cX12_forestNode 7 none (8 + (z + 1)) 0 0 [.ref (ad 49), .int (nI i), .int (nI (z + 1)), .int (nI j), .ref (ad ko), .int (nI b)] σ (fun r σ' => r = none ∧ RC G ad θ x sh nn P H K σ' ∧ (∀ k, ¬ (13 ≤ k ∧ k ≤ 17 ∨ k = 49 ∨ k = 28 ∨ k = 32 ∨ (58 < k ∧ k ≤ 58 + (z + 1)) ∨ k = ko) → σ' k = σ k) ∧ bt σ' ko = wr (bt σ ko) b (fnL (fF θ sh nn P H) K i (z + 1) j)) := by
  refine vOk.of (by decide +kernel) (Nat.le_of_ble_eq_true rfl) ?_
  intro p e s m args below meth c C
  refine v_eq (lv' := [(0, .ref (ad 49)), (1, .int (nI i)), (2, .int (nI (z + 1))), (3, .int (nI j)), (4, .ref (ad ko)), (5, .int (nI b))]) rfl rfl rfl ?_
  have hn := hC.qnn
  have hp0 : rLn (58 + (z + 1)) = 64 := rLn_pair (z + 1) (by omega)
  have hoh := rLn_h (k := ko) (by omega)
  have hA : (2 * j + 1 + 1) * 2 ^ z ≤ 2 ^ 30 := by rw [show 2 * j + 1 + 1 = (j + 1) * 2 by omega, Nat.mul_assoc, Nat.mul_comm 2, ← Nat.pow_succ]; exact hj
  have hB : (2 * j + 1) * 2 ^ z ≤ 2 ^ 30 := Nat.le_trans (Nat.mul_le_mul_right _ (by omega)) hA
  have hj3 : j + 1 ≤ 2 ^ 30 := Nat.le_trans (Nat.le_mul_of_pos_right (j + 1) (Nat.two_pow_pos (z + 1))) hj
  refine v_iload_n C eX12_forestNode_0 rfl 2 rfl ?_
  refine v_if_ne (tgt := 48) C eX12_forestNode_1 (by decide) (fun _ => ?_) (fun h => absurd h (ix_ne (a := z + 1) (b := 0) (rfl : nI (z + 1) = nI (z + 1)) (rfl : (0 : Int32) = nI 0) (by omega) (by omega) (by omega)))
  refine v_aload_n C eX12_forestNode_48 rfl 0 rfl ?_
  refine n_get C I fX12_84_X12 eX12_forestNode_49 (hN 49 (by decide)) hC.s.obj rfl ?_
  refine v_iload_n C eX12_forestNode_52 rfl 2 rfl ?_
  refine n_aald (b := ad (58 + (z + 1))) C I eX12_forestNode_53 (hN 29 (by decide)) hC.s.pair (z + 1) (rfl : nI (z + 1) = nI (z + 1)) (by omega) (by decide) (eRf_at (by omega)) ?_
  refine v_astore (lv' := [(0, .ref (ad 49)), (1, .int (nI i)), (2, .int (nI (z + 1))), (3, .int (nI j)), (4, .ref (ad ko)), (5, .int (nI b)), (6, .ref (ad (58 + (z + 1))))]) C eX12_forestNode_54 (by decide) [1, 2, 3, 4, 5, 6, 0] rfl ?_
  refine v_aload_n C eX12_forestNode_56 rfl 0 rfl ?_
  refine v_iload_n C eX12_forestNode_57 rfl 1 rfl ?_
  refine v_iload_n C eX12_forestNode_58 rfl 2 rfl ?_
  refine v_iconst (v := (1 : Int32)) C eX12_forestNode_59 (by decide) ?_
  refine v_isub C eX12_forestNode_60 ?_
  refine v_iconst (v := (2 : Int32)) C eX12_forestNode_61 (by decide) ?_
  refine v_iload_n C eX12_forestNode_62 rfl 3 rfl ?_
  refine v_imul C eX12_forestNode_63 ?_
  refine v_aload C eX12_forestNode_64 6 rfl ?_
  refine v_iconst (v := (0 : Int32)) C eX12_forestNode_66 (by decide) ?_
  refine n_callV (As := [.int (nI i), .int (nI ((z + 1) - 1)), .int (nI (2 * j)), .ref (ad (58 + (z + 1))), .int (nI 0)]) (rest := []) C I mX12_298 (ih hC (ko := 58 + (z + 1)) (no := 64) hp0 (by decide) (by omega) (by omega) (by omega) (2 * j) 0 hB (by omega)) (hN 49 (by decide)) hC.s.obj rfl (by omega) (by decide) ⟨by decide, by decide⟩ rfl (vi_c (rfl : (0 : Int32) = nI 0) (vi_k (vi_c (ix_mul (a := 2) (b := j) (rfl : (2 : Int32) = nI 2) (rfl : nI j = nI j)) (vi_c (ix_sub (a := z + 1) (b := 1) (rfl : nI (z + 1) = nI (z + 1)) (rfl : (1 : Int32) = nI 1) (by omega)) (vi_c (rfl : nI i = nI i) rfl))))) (Nat.le_of_ble_eq_true rfl) eX12_forestNode_67 (fun r σ1 hp => ?_)
  obtain ⟨rfl, hC1, hk1, hv1⟩ := hp
  refine v_aload_n C eX12_forestNode_70 rfl 0 rfl ?_
  refine v_iload_n C eX12_forestNode_71 rfl 1 rfl ?_
  refine v_iload_n C eX12_forestNode_72 rfl 2 rfl ?_
  refine v_iconst (v := (1 : Int32)) C eX12_forestNode_73 (by decide) ?_
  refine v_isub C eX12_forestNode_74 ?_
  refine v_iconst (v := (2 : Int32)) C eX12_forestNode_75 (by decide) ?_
  refine v_iload_n C eX12_forestNode_76 rfl 3 rfl ?_
  refine v_imul C eX12_forestNode_77 ?_
  refine v_iconst (v := (1 : Int32)) C eX12_forestNode_78 (by decide) ?_
  refine v_iadd C eX12_forestNode_79 ?_
  refine v_aload C eX12_forestNode_80 6 rfl ?_
  refine v_aload_n C eX12_forestNode_82 rfl 0 rfl ?_
  refine n_get C I fX12_243_X12 eX12_forestNode_83 (hN 49 (by decide)) hC1.s.obj rfl ?_
  refine n_callV (As := [.int (nI i), .int (nI ((z + 1) - 1)), .int (nI ((2 * j) + 1)), .ref (ad (58 + (z + 1))), .int (nI nn)]) (rest := []) C I mX12_298 (ih hC1 (ko := 58 + (z + 1)) (no := 64) hp0 (by decide) (by omega) (by omega) (by omega) (2 * j + 1) nn hA (by omega)) (hN 49 (by decide)) hC1.s.obj rfl (by omega) (by decide) ⟨by decide, by decide⟩ rfl (vi_c hC1.n (vi_k (vi_c (ix_add (a := 2 * j) (b := 1) (ix_mul (a := 2) (b := j) (rfl : (2 : Int32) = nI 2) (rfl : nI j = nI j)) (rfl : (1 : Int32) = nI 1)) (vi_c (ix_sub (a := z + 1) (b := 1) (rfl : nI (z + 1) = nI (z + 1)) (rfl : (1 : Int32) = nI 1) (by omega)) (vi_c (rfl : nI i = nI i) rfl))))) (Nat.le_of_ble_eq_true rfl) eX12_forestNode_86 (fun r σ2 hp => ?_)
  obtain ⟨rfl, hC2, hk2, hv2⟩ := hp
  refine v_aload_n C eX12_forestNode_89 rfl 0 rfl ?_
  refine v_iconst (v := (3 : Int32)) C eX12_forestNode_90 (by decide) ?_
  refine v_iload_n C eX12_forestNode_91 rfl 1 rfl ?_
  refine v_iload_n C eX12_forestNode_92 rfl 2 rfl ?_
  refine v_iload_n C eX12_forestNode_93 rfl 3 rfl ?_
  refine n_callV (As := [.int (nI 3), .int (nI i), .int (nI (z + 1)), .int (nI j)]) (rest := []) C I mX12_272 (rc_type I hN hC2 3 i (z + 1) j) (hN 49 (by decide)) hC2.s.obj rfl (by omega) (by decide) ⟨by decide, by decide⟩ rfl (vi_c (rfl : nI j = nI j) (vi_c (rfl : nI (z + 1) = nI (z + 1)) (vi_c (rfl : nI i = nI i) (vi_c (rfl : (3 : Int32) = nI 3) rfl)))) (Nat.le_of_ble_eq_true rfl) eX12_forestNode_94 (fun r σ3 hp => ?_)
  obtain ⟨rfl, hC3, hk3, hY3⟩ := hp
  refine v_aload_n C eX12_forestNode_97 rfl 0 rfl ?_
  refine v_aload C eX12_forestNode_98 6 rfl ?_
  refine v_iconst (v := (0 : Int32)) C eX12_forestNode_100 (by decide) ?_
  refine v_iconst (v := (2 : Int32)) C eX12_forestNode_101 (by decide) ?_
  refine v_aload_n C eX12_forestNode_102 rfl 0 rfl ?_
  refine n_get C I fX12_243_X12 eX12_forestNode_103 (hN 49 (by decide)) hC3.s.obj rfl ?_
  refine v_imul C eX12_forestNode_106 ?_
  refine v_aload C eX12_forestNode_107 4 rfl ?_
  refine v_iload C eX12_forestNode_109 5 rfl ?_
  refine n_callV (As := [.ref (ad (58 + (z + 1))), .int (nI 0), .int (nI (2 * nn)), .ref (ad ko), .int (nI b)]) (rest := []) C I mX12_268 (rc_hashed I hN hC3 hY3 hp0 (by decide) hko ho0 hfr 0 (2 * nn) b (by omega) hb) (hN 49 (by decide)) hC3.s.obj rfl (by omega) (by decide) ⟨by decide, by decide⟩ rfl (vi_c (rfl : nI b = nI b) (vi_k (vi_c (ix_mul (a := 2) (b := nn) (rfl : (2 : Int32) = nI 2) hC3.n) (vi_c (rfl : (0 : Int32) = nI 0) (vi_k rfl))))) (Nat.le_of_ble_eq_true rfl) eX12_forestNode_111 (fun r σ4 hp => ?_)
  obtain ⟨rfl, hC4, hk4, hv4⟩ := hp
  refine n_vret C rfl eX12_forestNode_114 ⟨rfl, hC4, fun k hk => (hk4 k (by omega)).trans ((hk3 k (by omega)).trans ((hk2 k (by omega)).trans (hk1 k (by omega)))), ?_⟩
  rw [hv4, bt_same (hk3 ko hfr.1), bt_same (hk2 ko (by omega)), bt_same (hk1 ko (by omega)), bt_same (hk3 (58 + (z + 1)) (by omega)), hv2, hv1, wr_app (by rw [fnL_len]; omega), sl_wr' (by rw [List.length_append, fnL_len, fnL_len]; omega)]
  rfl

theorem rc_forestNode (I : nI1 ad N) (hN : ∀ k, k < 74 → k < N) (i : Nat) : ∀ (z : Nat), z < 16 → ∀ {σ : nS}, RC G ad θ x sh nn P H K σ → ∀ {ko no : Nat}, rLn ko = no → 0 < no → (ko ≠ 28 ∧ ko ≠ 37 ∧ ko ≠ 38) → ko ≠ 32 → (ko < 58 ∨ 58 + z < ko) → ∀ (j b : Nat), (j + 1) * 2 ^ z ≤ 2 ^ 30 → b + nn ≤ no → nOk G B l ad N yX12_forestNode cX12_forestNode 7 none (8 + z) 0 0 [.ref (ad 49), .int (nI i), .int (nI z), .int (nI j), .ref (ad ko), .int (nI b)] σ (fun r σ' => r = none ∧ RC G ad θ x sh nn P H K σ' ∧ (∀ k, ¬ (13 ≤ k ∧ k ≤ 17 ∨ k = 49 ∨ k = 28 ∨ k = 32 ∨ (58 < k ∧ k ≤ 58 + z) ∨ k = ko) → σ' k = σ k) ∧ bt σ' ko = wr (bt σ ko) b (fnL (fF θ sh nn P H) K i z j))
  | 0, _, _, hC, _, _, hko, ho0, hfr, hk32, _, j, b, _, hb => rc_forestNode0 I hN hC hko ho0 hfr hk32 i j b hb
  | z + 1, hz, _, hC, _, _, hko, ho0, hfr, hk32, hkp, j, b, hj, hb => rc_forestNode1 I hN (fun hC _ _ h1 h2 h3 h4 h5 j b h6 h7 => rc_forestNode I hN i z (by omega) hC h1 h2 h3 h4 h5 j b h6 h7) hC hko ho0 hfr hk32 hkp hz j b hj hb
set_option maxRecDepth 100000 in
set_option maxHeartbeats 4000000 in
theorem rc_numberOf (I : nI1 ad N) (hN : ∀ k, k < 74 → k < N) (hC : RC G ad θ x sh nn P H K σ) {T : List Int32} {mT : Nat} (hT : sl (bt σ 35) 0 mT = T) (hmT : mT ≤ 64) {aa : Nat} (h45 : x 45 = nI aa) (ha14 : aa ≤ 14) (jj : Nat) (hb : (jj + 1) * aa ≤ 8 * mT) : nOk G B l ad N yX12_numberOf cX12_numberOf 4 (some .int) 1 0 0 [.ref (ad 49), .int (nI jj)] σ (fun r σ' => r = some (.int (nI (nmL T (jj * aa) aa))) ∧ σ' = σ) := by
  refine vOk.of (by decide +kernel) (Nat.le_of_ble_eq_true rfl) ?_
  intro p e s m args below meth c C
  refine v_eq (lv' := [(0, .ref (ad 49)), (1, .int (nI jj))]) rfl rfl rfl ?_
  have hj2 : jj * aa + aa ≤ 8 * mT := by rw [← Nat.succ_mul]; exact hb
  refine v_iconst (v := nI 0) C eX12_numberOf_0 (by decide) ?_
  refine v_istore_n (lv' := [(0, .ref (ad 49)), (1, .int (nI jj)), (2, .int (nI 0))]) C eX12_numberOf_1 rfl (by decide) [1, 2, 0] rfl ?_
  refine v_iload_n C eX12_numberOf_2 rfl 1 rfl ?_
  refine v_aload_n C eX12_numberOf_3 rfl 0 rfl ?_
  refine n_get C I fX12_252_X12 eX12_numberOf_4 (hN 49 (by decide)) hC.s.obj rfl ?_
  refine v_imul C eX12_numberOf_7 ?_
  refine v_natT (show (nI jj) * ((ox σ) 45) = nI (jj * aa) from (ix_mul (a := jj) (b := aa) (rfl : nI jj = nI jj) (hC.s.i45.trans h45))) ?_
  refine v_istore_n (lv' := [(0, .ref (ad 49)), (1, .int (nI jj)), (2, .int (nI 0)), (3, .int (nI (jj * aa)))]) C eX12_numberOf_8 rfl (by decide) [1, 2, 3, 0] rfl ?_
  refine v_forP (fun q τ => τ = σ) (fun q => [(0, .ref (ad 49)), (1, .int (nI jj)), (2, .int (nI (nmL T (jj * aa) q))), (3, .int (nI (jj * aa + q)))]) aa ?_ ?_ _ rfl
  · intro τ hI
    subst hI
    refine v_iload_n C eX12_numberOf_9 rfl 3 rfl ?_
    refine v_iload_n C eX12_numberOf_10 rfl 1 rfl ?_
    refine v_aload_n C eX12_numberOf_11 rfl 0 rfl ?_
    refine n_get C I fX12_252_X12 eX12_numberOf_12 (hN 49 (by decide)) hC.s.obj rfl ?_
    refine v_imul C eX12_numberOf_15 ?_
    refine v_aload_n C eX12_numberOf_16 rfl 0 rfl ?_
    refine n_get C I fX12_252_X12 eX12_numberOf_17 (hN 49 (by decide)) hC.s.obj rfl ?_
    refine v_iadd C eX12_numberOf_20 ?_
    refine v_icmp_ge (tgt := 54) C eX12_numberOf_21 (by decide) (fun _ => ?_) (fun h => absurd (ix_le (a := (jj * aa) + aa) (b := jj * aa + aa) (ix_add (a := jj * aa) (b := aa) (ix_mul (a := jj) (b := aa) (rfl : nI jj = nI jj) (hC.s.i45.trans h45)) (hC.s.i45.trans h45)) (rfl : nI (jj * aa + aa) = nI (jj * aa + aa)) (by omega) (by omega) (by omega)) h)
    refine v_iload_n C eX12_numberOf_54 rfl 2 rfl ?_
    exact n_iret C rfl eX12_numberOf_55 ⟨rfl, rfl⟩
  · intro q hq ih τ hI
    subst hI
    refine v_iload_n C eX12_numberOf_9 rfl 3 rfl ?_
    refine v_iload_n C eX12_numberOf_10 rfl 1 rfl ?_
    refine v_aload_n C eX12_numberOf_11 rfl 0 rfl ?_
    refine n_get C I fX12_252_X12 eX12_numberOf_12 (hN 49 (by decide)) hC.s.obj rfl ?_
    refine v_imul C eX12_numberOf_15 ?_
    refine v_aload_n C eX12_numberOf_16 rfl 0 rfl ?_
    refine n_get C I fX12_252_X12 eX12_numberOf_17 (hN 49 (by decide)) hC.s.obj rfl ?_
    refine v_iadd C eX12_numberOf_20 ?_
    refine v_icmp_ge (tgt := 54) C eX12_numberOf_21 (by decide) (fun h => absurd h (ix_nle (a := (jj * aa) + aa) (b := jj * aa + q) (ix_add (a := jj * aa) (b := aa) (ix_mul (a := jj) (b := aa) (rfl : nI jj = nI jj) (hC.s.i45.trans h45)) (hC.s.i45.trans h45)) (rfl : nI (jj * aa + q) = nI (jj * aa + q)) (by omega) (by omega) (by omega))) (fun _ => ?_)
    have hnl := nmL_lt (T := T) (b := jj * aa) q
    have h2q : 2 ^ q ≤ 2 ^ 14 := Nat.pow_le_pow_right (by decide) (by omega)
    have hbl := bitL_2 (T := T) (b := jj * aa + q)
    refine v_iload_n C eX12_numberOf_24 rfl 2 rfl ?_
    refine v_iconst (v := (1 : Int32)) C eX12_numberOf_25 (by decide) ?_
    refine v_ishl C eX12_numberOf_26 ?_
    refine v_aload_n C eX12_numberOf_27 rfl 0 rfl ?_
    refine n_get C I fX12_102_X12 eX12_numberOf_28 (hN 49 (by decide)) hC.s.obj rfl ?_
    refine v_iload_n C eX12_numberOf_31 rfl 3 rfl ?_
    refine v_bipush (v := (8 : Int32)) C eX12_numberOf_32 (by decide) ?_
    refine v_idiv C eX12_numberOf_34 (by decide) ?_
    refine n_bald C I eX12_numberOf_35 (hN 35 (by decide)) (hC.s.b 35 64 rfl (by decide)) ((jj * aa + q) / 8) (ix_div (a := jj * aa + q) (d := 8) (rfl : nI (jj * aa + q) = nI (jj * aa + q)) (rfl : (8 : Int32) = nI 8) (by omega) (by omega) (by omega)) (by omega) (by decide) ?_
    refine v_bipush (v := (7 : Int32)) C eX12_numberOf_36 (by decide) ?_
    refine v_iload_n C eX12_numberOf_38 rfl 3 rfl ?_
    refine v_bipush (v := (8 : Int32)) C eX12_numberOf_39 (by decide) ?_
    refine v_irem C eX12_numberOf_41 (by decide) ?_
    refine v_isub C eX12_numberOf_42 ?_
    refine v_natT (show ((7 : Int32)) - ((nI (jj * aa + q)) - (nI (jj * aa + q)) / ((8 : Int32)) * ((8 : Int32))) = nI (7 - ((jj * aa + q) % 8)) from (ix_sub (a := 7) (b := (jj * aa + q) % 8) (rfl : (7 : Int32) = nI 7) (ix_rem (a := jj * aa + q) (d := 8) (rfl : nI (jj * aa + q) = nI (jj * aa + q)) (rfl : (8 : Int32) = nI 8) (by omega) (by omega) (by omega)) (by omega))) ?_
    refine v_ishr C eX12_numberOf_43 ?_
    refine v_iconst (v := (1 : Int32)) C eX12_numberOf_44 (by decide) ?_
    refine v_iand C eX12_numberOf_45 ?_
    refine v_ior C eX12_numberOf_46 ?_
    refine v_natT (show ((nI (nmL T (jj * aa) q)) <<< (((1 : Int32)) &&& 31)) ||| ((((bt τ 35) ((jj * aa + q) / 8)) >>> ((nI (7 - ((jj * aa + q) % 8))) &&& 31)) &&& ((1 : Int32))) = nI (nmL T (jj * aa) (q + 1)) from ix_or1 (a := nmL T (jj * aa) q) (b := bitL T (jj * aa + q)) (ix_shl (rfl : nI (nmL T (jj * aa) q) = nI (nmL T (jj * aa) q)) 1 (by decide) (by omega)) (by unfold bitL; rw [← hT, sl_at (by omega), Nat.zero_add]; exact pk_and _ 1 (by decide)) (by omega) hbl) ?_
    refine v_istore_n (lv' := [(0, .ref (ad 49)), (1, .int (nI jj)), (2, .int (nI (nmL T (jj * aa) (q + 1)))), (3, .int (nI (jj * aa + q)))]) C eX12_numberOf_47 rfl (by decide) [1, 2, 0, 3] rfl ?_
    refine v_iinc (lv' := [(0, .ref (ad 49)), (1, .int (nI jj)), (2, .int (nI (nmL T (jj * aa) (q + 1)))), (3, .int (nI (jj * aa + q + 1)))]) C eX12_numberOf_48 3 rfl (ix_inc _) (by decide) [1, 2, 3, 0] rfl ?_
    refine v_goto (tgt := 9) C eX12_numberOf_51 (by decide) ?_
    exact ih _ rfl

def sfP (F : fT) (K : List Int32) (i lf c : Nat) : List Int32 := fnL F K i c ((lf / 2 ^ c) ^^^ 1)
def sfB (F : fT) (K T : List Int32) (aa i j : Nat) : List Int32 := F 6 i 0 (lfN T aa j) K ++ cat (sfP F K i (lfN T aa j)) aa
def sfL (F : fT) (K T : List Int32) (aa tt i : Nat) : List Int32 := cat (sfB F K T aa i) tt
theorem sfP_len {K : List Int32} {i lf : Nat} (c : Nat) : (sfP (fF θ sh nn P H) K i lf c).length = nn := fnL_len _ _
theorem sfB_len {K T : List Int32} {aa i : Nat} (j : Nat) : (sfB (fF θ sh nn P H) K T aa i j).length = (1 + aa) * nn := by
  unfold sfB
  rw [List.length_append, fF_len, cat_len sfP_len, Nat.add_mul, Nat.one_mul]
set_option maxRecDepth 100000 in
set_option maxHeartbeats 4000000 in
theorem rc_signForest (I : nI1 ad N) (hN : ∀ k, k < 74 → k < N) (hC : RC G ad θ x sh nn P H K σ) {T : List Int32} {mT : Nat} (hT : sl (bt σ 35) 0 mT = T) (hmT : mT ≤ 64) {aa tt : Nat} (h45 : x 45 = nI aa) (ha14 : aa ≤ 14) (h46 : x 46 = nI tt) (ht : tt ≤ 35) (hbits : tt * aa ≤ 8 * mT) {ko no : Nat} (hko : rLn ko = no) (ho0 : 0 < no) (hfr : ko ≠ 28 ∧ ko ≠ 37 ∧ ko ≠ 38) (hk32 : ko ≠ 32) (hk35 : ko ≠ 35) (hkp : ko < 58) (i b : Nat) (hb : b + tt * ((1 + aa) * nn) ≤ no) : nOk G B l ad N yX12_signForest cX12_signForest 8 none 24 0 0 [.ref (ad 49), .int (nI i), .ref (ad ko), .int (nI b)] σ (fun r σ' => r = none ∧ RC G ad θ x sh nn P H K σ' ∧ (∀ k, ¬ (13 ≤ k ∧ k ≤ 17 ∨ k = 49 ∨ k = 28 ∨ k = 32 ∨ (58 < k ∧ k < 74) ∨ k = ko) → σ' k = σ k) ∧ bt σ' ko = wr (bt σ ko) b (sfL (fF θ sh nn P H) K T aa tt i)) := by
  refine vOk.of (by decide +kernel) (Nat.le_of_ble_eq_true rfl) ?_
  intro p e s m args below meth c C
  refine v_eq (lv' := [(0, .ref (ad 49)), (1, .int (nI i)), (2, .ref (ad ko)), (3, .int (nI b))]) rfl rfl rfl ?_
  have hn := hC.qnn
  have hoh := rLn_h (k := ko) (by omega)
  have ho31 : no < 2 ^ 31 := hko ▸ rLn_31 (k := ko) (by omega)
  have hM : (1 + aa) * nn = nn + aa * nn := by rw [Nat.add_mul, Nat.one_mul]
  refine v_iload_n C eX12_signForest_0 rfl 3 rfl ?_
  refine v_natT (show nI b = nI (b + 0 * ((1 + aa) * nn)) from congrArg nI (by rw [Nat.zero_mul]; rfl)) ?_
  refine v_istore (lv' := [(0, .ref (ad 49)), (1, .int (nI i)), (2, .ref (ad ko)), (3, .int (nI b)), (4, .int (nI (b + 0 * ((1 + aa) * nn))))]) C eX12_signForest_1 (by decide) [1, 2, 3, 4, 0] rfl ?_
  refine v_iconst (v := nI 0) C eX12_signForest_3 (by decide) ?_
  refine v_istore (lv' := [(0, .ref (ad 49)), (1, .int (nI i)), (2, .ref (ad ko)), (3, .int (nI b)), (4, .int (nI (b + 0 * ((1 + aa) * nn)))), (5, .int (nI 0))]) C eX12_signForest_4 (by decide) [1, 2, 3, 4, 5, 0] rfl ?_
  refine v_forP (fun j τ => RC G ad θ x sh nn P H K τ ∧ (∀ k, ¬ (13 ≤ k ∧ k ≤ 17 ∨ k = 49 ∨ k = 28 ∨ k = 32 ∨ (58 < k ∧ k < 74) ∨ k = ko) → τ k = σ k) ∧ bt τ ko = wr (bt σ ko) b (cat (sfB (fF θ sh nn P H) K T aa i) j)) (fun j => [(0, .ref (ad 49)), (1, .int (nI i)), (2, .ref (ad ko)), (3, .int (nI b)), (4, .int (nI (b + j * ((1 + aa) * nn)))), (5, .int (nI j))]) tt ?_ ?_ _ ⟨hC, fun k _ => rfl, wr_nil.symm⟩
  · intro τ hI
    obtain ⟨hC1, hk1, hv1⟩ := hI
    refine v_iload C eX12_signForest_6 5 rfl ?_
    refine v_aload_n C eX12_signForest_8 rfl 0 rfl ?_
    refine n_get C I fX12_255_X12 eX12_signForest_9 (hN 49 (by decide)) hC1.s.obj rfl ?_
    refine v_icmp_ge (tgt := 115) C eX12_signForest_12 (by decide) (fun _ => ?_) (fun h => absurd (ix_le (a := tt) (b := tt) (hC1.s.i46.trans h46) (rfl : nI tt = nI tt) (by omega) (by omega) (by omega)) h)
    exact n_vret C rfl eX12_signForest_115 ⟨rfl, hC1, hk1, hv1⟩
  · intro j hj ih τ hI
    obtain ⟨hC1, hk1, hv1⟩ := hI
    refine v_iload C eX12_signForest_6 5 rfl ?_
    refine v_aload_n C eX12_signForest_8 rfl 0 rfl ?_
    refine n_get C I fX12_255_X12 eX12_signForest_9 (hN 49 (by decide)) hC1.s.obj rfl ?_
    refine v_icmp_ge (tgt := 115) C eX12_signForest_12 (by decide) (fun h => absurd h (ix_nle (a := tt) (b := j) (hC1.s.i46.trans h46) (rfl : nI j = nI j) (by omega) (by omega) (by omega))) (fun _ => ?_)
    have hlf := lfN_lt (T := T) (aa := aa) (j := j) (by omega) ha14
    have hT1 : sl (bt τ 35) 0 mT = T := by rw [bt_same (hk1 35 (by omega))]; exact hT
    have hja : (j + 1) * aa ≤ 8 * mT := Nat.le_trans (Nat.mul_le_mul_right _ hj) hbits
    have hjM : j * ((1 + aa) * nn) + (1 + aa) * nn ≤ tt * ((1 + aa) * nn) := by rw [← Nat.succ_mul]; exact Nat.mul_le_mul_right _ hj
    have hj2 : j * 2 ^ aa < 2 ^ 20 := Nat.lt_of_le_of_lt (Nat.le_add_right _ _) hlf
    refine v_iload C eX12_signForest_15 5 rfl ?_
    refine v_aload_n C eX12_signForest_17 rfl 0 rfl ?_
    refine n_get C I fX12_252_X12 eX12_signForest_18 (hN 49 (by decide)) hC1.s.obj rfl ?_
    refine v_ishl C eX12_signForest_21 ?_
    refine v_aload_n C eX12_signForest_22 rfl 0 rfl ?_
    refine v_iload C eX12_signForest_23 5 rfl ?_
    refine n_callV (As := [.int (nI j)]) (rest := [.int ((nI j) <<< (((ox τ) 45) &&& 31))]) C I mX12_302 (rc_numberOf I hN hC1 hT1 hmT h45 ha14 j hja) (hN 49 (by decide)) hC1.s.obj rfl (by decide) (by decide) ⟨by decide, by decide⟩ rfl (vi_c (rfl : nI j = nI j) rfl) (Nat.le_of_ble_eq_true rfl) eX12_signForest_25 (fun r ρ hp => ?_)
    obtain ⟨rfl, hρ⟩ := hp
    rw [hρ]
    refine v_iadd C eX12_signForest_28 ?_
    refine v_natT (show ((nI j) <<< (((ox τ) 45) &&& 31)) + (nI (nmL T (j * aa) aa)) = nI (lfN T aa j) from (ix_add (a := j * 2 ^ aa) (b := nmL T (j * aa) aa) (ix_shlV (a := j) (j := aa) (rfl : nI j = nI j) (hC1.s.i45.trans h45) (by omega) (by omega)) (rfl : nI (nmL T (j * aa) aa) = nI (nmL T (j * aa) aa)))) ?_
    refine v_istore (lv' := [(0, .ref (ad 49)), (1, .int (nI i)), (2, .ref (ad ko)), (3, .int (nI b)), (4, .int (nI (b + j * ((1 + aa) * nn)))), (5, .int (nI j)), (6, .int (nI (lfN T aa j)))]) C eX12_signForest_29 (by decide) [1, 2, 3, 4, 5, 6, 0] rfl ?_
    refine v_aload_n C eX12_signForest_31 rfl 0 rfl ?_
    refine v_bipush (v := (6 : Int32)) C eX12_signForest_32 (by decide) ?_
    refine v_iload_n C eX12_signForest_34 rfl 1 rfl ?_
    refine v_iconst (v := (0 : Int32)) C eX12_signForest_35 (by decide) ?_
    refine v_iload C eX12_signForest_36 6 rfl ?_
    refine n_callV (As := [.int (nI 6), .int (nI i), .int (nI 0), .int (nI (lfN T aa j))]) (rest := []) C I mX12_272 (rc_type I hN hC1 6 i 0 (lfN T aa j)) (hN 49 (by decide)) hC1.s.obj rfl (by decide) (by decide) ⟨by decide, by decide⟩ rfl (vi_c (rfl : nI (lfN T aa j) = nI (lfN T aa j)) (vi_c (rfl : (0 : Int32) = nI 0) (vi_c (rfl : nI i = nI i) (vi_c (rfl : (6 : Int32) = nI 6) rfl)))) (Nat.le_of_ble_eq_true rfl) eX12_signForest_38 (fun r σ2 hp => ?_)
    obtain ⟨rfl, hC2, hk2, hY2⟩ := hp
    refine v_aload_n C eX12_signForest_41 rfl 0 rfl ?_
    refine v_aload_n C eX12_signForest_42 rfl 2 rfl ?_
    refine v_iload C eX12_signForest_43 4 rfl ?_
    refine n_callV (As := [.ref (ad ko), .int (nI (b + j * ((1 + aa) * nn)))]) (rest := []) C I mX12_276 (rc_pseudo I hN hC2 hY2 hko ho0 hfr (b + j * ((1 + aa) * nn)) (by omega)) (hN 49 (by decide)) hC2.s.obj rfl (by decide) (by decide) ⟨by decide, by decide⟩ rfl (vi_c (rfl : nI (b + j * ((1 + aa) * nn)) = nI (b + j * ((1 + aa) * nn))) (vi_k rfl)) (Nat.le_of_ble_eq_true rfl) eX12_signForest_45 (fun r σ3 hp => ?_)
    obtain ⟨rfl, hC3, hk3, hv3⟩ := hp
    refine v_iconst (v := nI 0) C eX12_signForest_48 (by decide) ?_
    refine v_istore (lv' := [(0, .ref (ad 49)), (1, .int (nI i)), (2, .ref (ad ko)), (3, .int (nI b)), (4, .int (nI (b + j * ((1 + aa) * nn)))), (5, .int (nI j)), (6, .int (nI (lfN T aa j))), (7, .int (nI 0))]) C eX12_signForest_49 (by decide) [1, 2, 3, 4, 5, 6, 7, 0] rfl ?_
    have h0 : bt σ3 ko = wr (bt σ ko) b (cat (sfB (fF θ sh nn P H) K T aa i) j ++ (fF θ sh nn P H 6 i 0 (lfN T aa j) K ++ cat (sfP (fF θ sh nn P H) K i (lfN T aa j)) 0)) := by rw [hv3, bt_same (hk2 ko hfr.1), hv1, wr_app (by rw [cat_len sfB_len]), show ∀ f, cat f 0 = [] from fun _ => rfl, List.append_nil]
    refine v_forP (fun c0 ρ => RC G ad θ x sh nn P H K ρ ∧ (∀ k, ¬ (13 ≤ k ∧ k ≤ 17 ∨ k = 49 ∨ k = 28 ∨ k = 32 ∨ (58 < k ∧ k < 74) ∨ k = ko) → ρ k = σ k) ∧ bt ρ ko = wr (bt σ ko) b (cat (sfB (fF θ sh nn P H) K T aa i) j ++ (fF θ sh nn P H 6 i 0 (lfN T aa j) K ++ cat (sfP (fF θ sh nn P H) K i (lfN T aa j)) c0))) (fun c0 => [(0, .ref (ad 49)), (1, .int (nI i)), (2, .ref (ad ko)), (3, .int (nI b)), (4, .int (nI (b + j * ((1 + aa) * nn)))), (5, .int (nI j)), (6, .int (nI (lfN T aa j))), (7, .int (nI c0))]) aa ?_ ?_ _ ⟨hC3, fun k hk => (hk3 k (by omega)).trans ((hk2 k (by omega)).trans (hk1 k hk)), h0⟩
    · intro ρ hI
      obtain ⟨hC4, hk4, hv4⟩ := hI
      refine v_iload C eX12_signForest_51 7 rfl ?_
      refine v_aload_n C eX12_signForest_53 rfl 0 rfl ?_
      refine n_get C I fX12_252_X12 eX12_signForest_54 (hN 49 (by decide)) hC4.s.obj rfl ?_
      refine v_icmp_ge (tgt := 93) C eX12_signForest_57 (by decide) (fun _ => ?_) (fun h => absurd (ix_le (a := aa) (b := aa) (hC4.s.i45.trans h45) (rfl : nI aa = nI aa) (by omega) (by omega) (by omega)) h)
      refine v_iload C eX12_signForest_93 4 rfl ?_
      refine v_iconst (v := (1 : Int32)) C eX12_signForest_95 (by decide) ?_
      refine v_aload_n C eX12_signForest_96 rfl 0 rfl ?_
      refine n_get C I fX12_252_X12 eX12_signForest_97 (hN 49 (by decide)) hC4.s.obj rfl ?_
      refine v_iadd C eX12_signForest_100 ?_
      refine v_aload_n C eX12_signForest_101 rfl 0 rfl ?_
      refine n_get C I fX12_243_X12 eX12_signForest_102 (hN 49 (by decide)) hC4.s.obj rfl ?_
      refine v_imul C eX12_signForest_105 ?_
      refine v_iadd C eX12_signForest_106 ?_
      refine v_natT (show (nI (b + j * ((1 + aa) * nn))) + ((((1 : Int32)) + ((ox ρ) 45)) * ((ox ρ) 41)) = nI (b + (j + 1) * ((1 + aa) * nn)) from ((ix_add (a := b + j * ((1 + aa) * nn)) (b := (1 + aa) * nn) (rfl : nI (b + j * ((1 + aa) * nn)) = nI (b + j * ((1 + aa) * nn))) (ix_mul (a := 1 + aa) (b := nn) (ix_add (a := 1) (b := aa) (rfl : (1 : Int32) = nI 1) (hC4.s.i45.trans h45)) hC4.n))).trans (congrArg nI (by rw [Nat.succ_mul]; omega))) ?_
      refine v_istore (lv' := [(0, .ref (ad 49)), (1, .int (nI i)), (2, .ref (ad ko)), (3, .int (nI b)), (4, .int (nI (b + (j + 1) * ((1 + aa) * nn)))), (5, .int (nI j)), (6, .int (nI (lfN T aa j))), (7, .int (nI aa))]) C eX12_signForest_107 (by decide) [1, 2, 3, 4, 0, 5, 6, 7] rfl ?_
      refine v_iinc (lv' := [(0, .ref (ad 49)), (1, .int (nI i)), (2, .ref (ad ko)), (3, .int (nI b)), (4, .int (nI (b + (j + 1) * ((1 + aa) * nn)))), (5, .int (nI (j + 1))), (6, .int (nI (lfN T aa j))), (7, .int (nI aa))]) C eX12_signForest_109 5 rfl (ix_inc _) (by decide) [1, 2, 3, 4, 5, 0, 6, 7] rfl ?_
      refine v_goto (tgt := 6) C eX12_signForest_112 (by decide) ?_
      refine v_pick (lv' := [(0, .ref (ad 49)), (1, .int (nI i)), (2, .ref (ad ko)), (3, .int (nI b)), (4, .int (nI (b + (j + 1) * ((1 + aa) * nn)))), (5, .int (nI (j + 1)))]) [0, 1, 2, 3, 4, 5] rfl ?_
      exact ih ρ ⟨hC4, hk4, hv4⟩
    · intro c0 hc0 ih2 ρ hI
      obtain ⟨hC4, hk4, hv4⟩ := hI
      refine v_iload C eX12_signForest_51 7 rfl ?_
      refine v_aload_n C eX12_signForest_53 rfl 0 rfl ?_
      refine n_get C I fX12_252_X12 eX12_signForest_54 (hN 49 (by decide)) hC4.s.obj rfl ?_
      refine v_icmp_ge (tgt := 93) C eX12_signForest_57 (by decide) (fun h => absurd h (ix_nle (a := aa) (b := c0) (hC4.s.i45.trans h45) (rfl : nI c0 = nI c0) (by omega) (by omega) (by omega))) (fun _ => ?_)
      have hsb := sib_b (hh := 20) hlf (j := c0) (by omega)
      have hcl : c0 * nn + nn ≤ aa * nn := by rw [← Nat.succ_mul]; exact Nat.mul_le_mul_right _ hc0
      have h1c : (1 + c0) * nn = nn + c0 * nn := by rw [Nat.add_mul, Nat.one_mul]
      have hij : lfN T aa j / 2 ^ c0 ≤ lfN T aa j := Nat.div_le_self _ _
      refine v_aload_n C eX12_signForest_60 rfl 0 rfl ?_
      refine v_iload_n C eX12_signForest_61 rfl 1 rfl ?_
      refine v_iload C eX12_signForest_62 7 rfl ?_
      refine v_iload C eX12_signForest_64 6 rfl ?_
      refine v_iload C eX12_signForest_66 7 rfl ?_
      refine v_ishr C eX12_signForest_68 ?_
      refine v_iconst (v := (1 : Int32)) C eX12_signForest_69 (by decide) ?_
      refine v_ixor C eX12_signForest_70 ?_
      refine v_aload_n C eX12_signForest_71 rfl 2 rfl ?_
      refine v_iload C eX12_signForest_72 4 rfl ?_
      refine v_iconst (v := (1 : Int32)) C eX12_signForest_74 (by decide) ?_
      refine v_iload C eX12_signForest_75 7 rfl ?_
      refine v_iadd C eX12_signForest_77 ?_
      refine v_aload_n C eX12_signForest_78 rfl 0 rfl ?_
      refine n_get C I fX12_243_X12 eX12_signForest_79 (hN 49 (by decide)) hC4.s.obj rfl ?_
      refine v_imul C eX12_signForest_82 ?_
      refine v_iadd C eX12_signForest_83 ?_
      refine n_callV (As := [.int (nI i), .int (nI c0), .int (nI (((lfN T aa j) / 2 ^ c0) ^^^ 1)), .ref (ad ko), .int (nI ((b + j * ((1 + aa) * nn)) + ((1 + c0) * nn)))]) (rest := []) C I mX12_298 (rc_forestNode I hN i c0 (by omega) hC4 hko ho0 hfr hk32 (by omega) ((lfN T aa j / 2 ^ c0) ^^^ 1) (b + j * ((1 + aa) * nn) + (1 + c0) * nn) (by omega) (by omega)) (hN 49 (by decide)) hC4.s.obj rfl (by omega) (by decide) ⟨by decide, by decide⟩ rfl (vi_c (ix_add (a := b + j * ((1 + aa) * nn)) (b := (1 + c0) * nn) (rfl : nI (b + j * ((1 + aa) * nn)) = nI (b + j * ((1 + aa) * nn))) (ix_mul (a := 1 + c0) (b := nn) (ix_add (a := 1) (b := c0) (rfl : (1 : Int32) = nI 1) (rfl : nI c0 = nI c0)) hC4.n)) (vi_k (vi_c (ix_xor (a := (lfN T aa j) / 2 ^ c0) (b := 1) (ix_shrV (a := lfN T aa j) (j := c0) (rfl : nI (lfN T aa j) = nI (lfN T aa j)) (rfl : nI c0 = nI c0) (by omega) (by omega)) (rfl : (1 : Int32) = nI 1) (by omega) (by omega)) (vi_c (rfl : nI c0 = nI c0) (vi_c (rfl : nI i = nI i) rfl))))) (Nat.le_of_ble_eq_true rfl) eX12_signForest_84 (fun r σ5 hp => ?_)
      obtain ⟨rfl, hC5, hk5, hv5⟩ := hp
      refine v_iinc (lv' := [(0, .ref (ad 49)), (1, .int (nI i)), (2, .ref (ad ko)), (3, .int (nI b)), (4, .int (nI (b + j * ((1 + aa) * nn)))), (5, .int (nI j)), (6, .int (nI (lfN T aa j))), (7, .int (nI (c0 + 1)))]) C eX12_signForest_87 7 rfl (ix_inc _) (by decide) [1, 2, 3, 4, 5, 6, 7, 0] rfl ?_
      refine v_goto (tgt := 51) C eX12_signForest_90 (by decide) ?_
      refine ih2 σ5 ⟨hC5, fun k hk => (hk5 k (by omega)).trans (hk4 k hk), ?_⟩
      rw [hv5, hv4, wr_app (by rw [List.length_append, List.length_append, cat_len sfB_len, fF_len, cat_len sfP_len]; omega), List.append_assoc, List.append_assoc]
      rfl

/-- the root of the forest, of a part of a signature at place p -/
def rfB (F : fT) (T : List Int32) (aa nn : Nat) (A : Nat → List Int32) (i p j : Nat) : List Int32 := clL F 3 i (lfN T aa j) (fun q => A (p + j * ((1 + aa) * nn) + nn + q * nn)) aa (F 3 i 0 (lfN T aa j) (A (p + j * ((1 + aa) * nn))))
def rfL (F : fT) (T : List Int32) (aa tt nn : Nat) (A : Nat → List Int32) (i p : Nat) : List Int32 := F 4 i 0 0 (cat (rfB F T aa nn A i p) tt)
theorem clL_len {ty px idx : Nat} {A : Nat → List Int32} {w : List Int32} (hw : w.length = nn) : ∀ n, (clL (fF θ sh nn P H) ty px idx A n w).length = nn
  | 0 => hw
  | _ + 1 => fF_len _ _ _ _ _
theorem rfB_len {T : List Int32} {aa : Nat} {A : Nat → List Int32} {i p : Nat} (j : Nat) : (rfB (fF θ sh nn P H) T aa nn A i p j).length = nn := clL_len (fF_len _ _ _ _ _) _
set_option maxRecDepth 100000 in
set_option maxHeartbeats 4000000 in
theorem rc_rootOfForest (I : nI1 ad N) (hN : ∀ k, k < 74 → k < N) (hC : RC G ad θ x sh nn P H K σ) {T : List Int32} {mT : Nat} (hT : sl (bt σ 35) 0 mT = T) (hmT : mT ≤ 64) {aa tt : Nat} (h45 : x 45 = nI aa) (ha14 : aa ≤ 14) (h46 : x 46 = nI tt) (ht : tt ≤ 35) (hbits : tt * aa ≤ 8 * mT) {kx nx : Nat} (hkx : rLn kx = nx) (hx0 : 0 < nx) (hkf : kx ≠ 28 ∧ kx ≠ 31 ∧ kx ≠ 33 ∧ kx ≠ 34) (i a : Nat) (ha : a + tt * ((1 + aa) * nn) ≤ nx) (hnx : nrw (sl (bt σ kx) a (tt * ((1 + aa) * nn)))) : nOk G B l ad N yX12_rootOfForest cX12_rootOfForest 7 none 8 0 0 [.ref (ad 49), .int (nI i), .ref (ad kx), .int (nI a)] σ (fun r σ' => r = none ∧ RC G ad θ x sh nn P H K σ' ∧ (∀ k, ¬ (13 ≤ k ∧ k ≤ 17 ∨ k = 49 ∨ k = 28 ∨ k = 31 ∨ k = 33 ∨ k = 34) → σ' k = σ k) ∧ sl (bt σ' 33) 0 nn = rfL (fF θ sh nn P H) T aa tt nn (fun q => sl (bt σ kx) q nn) i a ∧ nrw (sl (bt σ' 33) 0 nn)) := by
  refine vOk.of (by decide +kernel) (Nat.le_of_ble_eq_true rfl) ?_
  intro p e s m args below meth c C
  refine v_eq (lv' := [(0, .ref (ad 49)), (1, .int (nI i)), (2, .ref (ad kx)), (3, .int (nI a))]) rfl rfl rfl ?_
  have hn := hC.qnn
  have hxh := rLn_h (k := kx) (by omega)
  have hx31 : nx < 2 ^ 31 := hkx ▸ rLn_31 (k := kx) (by omega)
  have hM : (1 + aa) * nn = nn + aa * nn := by rw [Nat.add_mul, Nat.one_mul]
  have htn : tt * nn ≤ 35 * 32 := Nat.mul_le_mul ht (by omega)
  refine v_iload_n C eX12_rootOfForest_0 rfl 3 rfl ?_
  refine v_natT (show nI a = nI (a + 0 * ((1 + aa) * nn)) from congrArg nI (by rw [Nat.zero_mul]; rfl)) ?_
  refine v_istore (lv' := [(0, .ref (ad 49)), (1, .int (nI i)), (2, .ref (ad kx)), (3, .int (nI a)), (4, .int (nI (a + 0 * ((1 + aa) * nn))))]) C eX12_rootOfForest_1 (by decide) [1, 2, 3, 4, 0] rfl ?_
  refine v_iconst (v := nI 0) C eX12_rootOfForest_3 (by decide) ?_
  refine v_istore (lv' := [(0, .ref (ad 49)), (1, .int (nI i)), (2, .ref (ad kx)), (3, .int (nI a)), (4, .int (nI (a + 0 * ((1 + aa) * nn)))), (5, .int (nI 0))]) C eX12_rootOfForest_4 (by decide) [1, 2, 3, 4, 5, 0] rfl ?_
  refine v_forP (fun j τ => RC G ad θ x sh nn P H K τ ∧ (∀ k, ¬ (13 ≤ k ∧ k ≤ 17 ∨ k = 49 ∨ k = 28 ∨ k = 31 ∨ k = 33 ∨ k = 34) → τ k = σ k) ∧ bt τ 31 = wr (bt σ 31) 0 (cat (rfB (fF θ sh nn P H) T aa nn (fun q => sl (bt σ kx) q nn) i a) j)) (fun j => [(0, .ref (ad 49)), (1, .int (nI i)), (2, .ref (ad kx)), (3, .int (nI a)), (4, .int (nI (a + j * ((1 + aa) * nn)))), (5, .int (nI j))]) tt ?_ ?_ _ ⟨hC, fun k _ => rfl, wr_nil.symm⟩
  · intro τ hI
    obtain ⟨hC1, hk1, hv1⟩ := hI
    refine v_iload C eX12_rootOfForest_6 5 rfl ?_
    refine v_aload_n C eX12_rootOfForest_8 rfl 0 rfl ?_
    refine n_get C I fX12_255_X12 eX12_rootOfForest_9 (hN 49 (by decide)) hC1.s.obj rfl ?_
    refine v_icmp_ge (tgt := 121) C eX12_rootOfForest_12 (by decide) (fun _ => ?_) (fun h => absurd (ix_le (a := tt) (b := tt) (hC1.s.i46.trans h46) (rfl : nI tt = nI tt) (by omega) (by omega) (by omega)) h)
    refine v_aload_n C eX12_rootOfForest_121 rfl 0 rfl ?_
    refine v_iconst (v := (4 : Int32)) C eX12_rootOfForest_122 (by decide) ?_
    refine v_iload_n C eX12_rootOfForest_123 rfl 1 rfl ?_
    refine v_iconst (v := (0 : Int32)) C eX12_rootOfForest_124 (by decide) ?_
    refine v_iconst (v := (0 : Int32)) C eX12_rootOfForest_125 (by decide) ?_
    refine n_callV (As := [.int (nI 4), .int (nI i), .int (nI 0), .int (nI 0)]) (rest := []) C I mX12_272 (rc_type I hN hC1 4 i 0 0) (hN 49 (by decide)) hC1.s.obj rfl (by decide) (by decide) ⟨by decide, by decide⟩ rfl (vi_c (rfl : (0 : Int32) = nI 0) (vi_c (rfl : (0 : Int32) = nI 0) (vi_c (rfl : nI i = nI i) (vi_c (rfl : (4 : Int32) = nI 4) rfl)))) (Nat.le_of_ble_eq_true rfl) eX12_rootOfForest_126 (fun r σ2 hp => ?_)
    obtain ⟨rfl, hC2, hk2, hY2⟩ := hp
    refine v_aload_n C eX12_rootOfForest_129 rfl 0 rfl ?_
    refine v_aload_n C eX12_rootOfForest_130 rfl 0 rfl ?_
    refine n_get C I fX12_90_X12 eX12_rootOfForest_131 (hN 49 (by decide)) hC2.s.obj rfl ?_
    refine v_iconst (v := (0 : Int32)) C eX12_rootOfForest_134 (by decide) ?_
    refine v_aload_n C eX12_rootOfForest_135 rfl 0 rfl ?_
    refine n_get C I fX12_255_X12 eX12_rootOfForest_136 (hN 49 (by decide)) hC2.s.obj rfl ?_
    refine v_aload_n C eX12_rootOfForest_139 rfl 0 rfl ?_
    refine n_get C I fX12_243_X12 eX12_rootOfForest_140 (hN 49 (by decide)) hC2.s.obj rfl ?_
    refine v_imul C eX12_rootOfForest_143 ?_
    refine v_aload_n C eX12_rootOfForest_144 rfl 0 rfl ?_
    refine n_get C I fX12_96_X12 eX12_rootOfForest_145 (hN 49 (by decide)) hC2.s.obj rfl ?_
    refine v_iconst (v := (0 : Int32)) C eX12_rootOfForest_148 (by decide) ?_
    refine n_callV (As := [.ref (ad 31), .int (nI 0), .int (nI (tt * nn)), .ref (ad 33), .int (nI 0)]) (rest := []) C I mX12_268 (rc_hashed I hN hC2 hY2 (kx := 31) (nx := 2048) (ko := 33) (no := 64) rfl (by decide) rfl (by decide) (by decide) 0 (tt * nn) 0 (by omega) (by omega)) (hN 49 (by decide)) hC2.s.obj rfl (by decide) (by decide) ⟨by decide, by decide⟩ rfl (vi_c (rfl : (0 : Int32) = nI 0) (vi_k (vi_c (ix_mul (a := tt) (b := nn) (hC2.s.i46.trans h46) hC2.n) (vi_c (rfl : (0 : Int32) = nI 0) (vi_k rfl))))) (Nat.le_of_ble_eq_true rfl) eX12_rootOfForest_149 (fun r σ3 hp => ?_)
    obtain ⟨rfl, hC3, hk3, hv3⟩ := hp
    have h33 : sl (bt σ3 33) 0 nn = rfL (fF θ sh nn P H) T aa tt nn (fun q => sl (bt σ kx) q nn) i a := by rw [hv3, sl_wr' (fF_len _ _ _ _ _), bt_same (hk2 31 (by decide)), hv1, sl_wr' (cat_len rfB_len _)]; rfl
    exact n_vret C rfl eX12_rootOfForest_152 ⟨rfl, hC3, fun k hk => (hk3 k (by omega)).trans ((hk2 k (by omega)).trans (hk1 k (by omega))), h33, by rw [h33]; exact nrw_fF _ _ _ _ _⟩
  · intro j hj ih τ hI
    obtain ⟨hC1, hk1, hv1⟩ := hI
    refine v_iload C eX12_rootOfForest_6 5 rfl ?_
    refine v_aload_n C eX12_rootOfForest_8 rfl 0 rfl ?_
    refine n_get C I fX12_255_X12 eX12_rootOfForest_9 (hN 49 (by decide)) hC1.s.obj rfl ?_
    refine v_icmp_ge (tgt := 121) C eX12_rootOfForest_12 (by decide) (fun h => absurd h (ix_nle (a := tt) (b := j) (hC1.s.i46.trans h46) (rfl : nI j = nI j) (by omega) (by omega) (by omega))) (fun _ => ?_)
    have hlf := lfN_lt (T := T) (aa := aa) (j := j) (by omega) ha14
    have hT1 : sl (bt τ 35) 0 mT = T := by rw [bt_same (hk1 35 (by omega))]; exact hT
    have hja : (j + 1) * aa ≤ 8 * mT := Nat.le_trans (Nat.mul_le_mul_right _ hj) hbits
    have hjM : j * ((1 + aa) * nn) + (1 + aa) * nn ≤ tt * ((1 + aa) * nn) := by rw [← Nat.succ_mul]; exact Nat.mul_le_mul_right _ hj
    have hj2 : j * 2 ^ aa < 2 ^ 20 := Nat.lt_of_le_of_lt (Nat.le_add_right _ _) hlf
    have hjn : j * nn + nn ≤ tt * nn := by rw [← Nat.succ_mul]; exact Nat.mul_le_mul_right _ hj
    have hbx : bt τ kx = bt σ kx := bt_same (hk1 kx (by omega))
    refine v_iload C eX12_rootOfForest_15 5 rfl ?_
    refine v_aload_n C eX12_rootOfForest_17 rfl 0 rfl ?_
    refine n_get C I fX12_252_X12 eX12_rootOfForest_18 (hN 49 (by decide)) hC1.s.obj rfl ?_
    refine v_ishl C eX12_rootOfForest_21 ?_
    refine v_aload_n C eX12_rootOfForest_22 rfl 0 rfl ?_
    refine v_iload C eX12_rootOfForest_23 5 rfl ?_
    refine n_callV (As := [.int (nI j)]) (rest := [.int ((nI j) <<< (((ox τ) 45) &&& 31))]) C I mX12_302 (rc_numberOf I hN hC1 hT1 hmT h45 ha14 j hja) (hN 49 (by decide)) hC1.s.obj rfl (by decide) (by decide) ⟨by decide, by decide⟩ rfl (vi_c (rfl : nI j = nI j) rfl) (Nat.le_of_ble_eq_true rfl) eX12_rootOfForest_25 (fun r ρ hp => ?_)
    obtain ⟨rfl, hρ⟩ := hp
    rw [hρ]
    refine v_iadd C eX12_rootOfForest_28 ?_
    refine v_natT (show ((nI j) <<< (((ox τ) 45) &&& 31)) + (nI (nmL T (j * aa) aa)) = nI (lfN T aa j) from (ix_add (a := j * 2 ^ aa) (b := nmL T (j * aa) aa) (ix_shlV (a := j) (j := aa) (rfl : nI j = nI j) (hC1.s.i45.trans h45) (by omega) (by omega)) (rfl : nI (nmL T (j * aa) aa) = nI (nmL T (j * aa) aa)))) ?_
    refine v_istore (lv' := [(0, .ref (ad 49)), (1, .int (nI i)), (2, .ref (ad kx)), (3, .int (nI a)), (4, .int (nI (a + j * ((1 + aa) * nn)))), (5, .int (nI j)), (6, .int (nI (lfN T aa j)))]) C eX12_rootOfForest_29 (by decide) [1, 2, 3, 4, 5, 6, 0] rfl ?_
    refine v_aload_n C eX12_rootOfForest_31 rfl 0 rfl ?_
    refine v_iconst (v := (3 : Int32)) C eX12_rootOfForest_32 (by decide) ?_
    refine v_iload_n C eX12_rootOfForest_33 rfl 1 rfl ?_
    refine v_iconst (v := (0 : Int32)) C eX12_rootOfForest_34 (by decide) ?_
    refine v_iload C eX12_rootOfForest_35 6 rfl ?_
    refine n_callV (As := [.int (nI 3), .int (nI i), .int (nI 0), .int (nI (lfN T aa j))]) (rest := []) C I mX12_272 (rc_type I hN hC1 3 i 0 (lfN T aa j)) (hN 49 (by decide)) hC1.s.obj rfl (by decide) (by decide) ⟨by decide, by decide⟩ rfl (vi_c (rfl : nI (lfN T aa j) = nI (lfN T aa j)) (vi_c (rfl : (0 : Int32) = nI 0) (vi_c (rfl : nI i = nI i) (vi_c (rfl : (3 : Int32) = nI 3) rfl)))) (Nat.le_of_ble_eq_true rfl) eX12_rootOfForest_37 (fun r σ2 hp => ?_)
    obtain ⟨rfl, hC2, hk2, hY2⟩ := hp
    refine v_aload_n C eX12_rootOfForest_40 rfl 0 rfl ?_
    refine v_aload_n C eX12_rootOfForest_41 rfl 2 rfl ?_
    refine v_iload C eX12_rootOfForest_42 4 rfl ?_
    refine v_aload_n C eX12_rootOfForest_44 rfl 0 rfl ?_
    refine n_get C I fX12_243_X12 eX12_rootOfForest_45 (hN 49 (by decide)) hC2.s.obj rfl ?_
    refine v_aload_n C eX12_rootOfForest_48 rfl 0 rfl ?_
    refine n_get C I fX12_96_X12 eX12_rootOfForest_49 (hN 49 (by decide)) hC2.s.obj rfl ?_
    refine v_iconst (v := (0 : Int32)) C eX12_rootOfForest_52 (by decide) ?_
    refine n_callV (As := [.ref (ad kx), .int (nI (a + j * ((1 + aa) * nn))), .int (nI nn), .ref (ad 33), .int (nI 0)]) (rest := []) C I mX12_268 (rc_hashed I hN hC2 hY2 (ko := 33) (no := 64) hkx hx0 rfl (by decide) (by decide) (a + j * ((1 + aa) * nn)) nn 0 (by omega) (by omega)) (hN 49 (by decide)) hC2.s.obj rfl (by decide) (by decide) ⟨by decide, by decide⟩ rfl (vi_c (rfl : (0 : Int32) = nI 0) (vi_k (vi_c hC2.n (vi_c (rfl : nI (a + j * ((1 + aa) * nn)) = nI (a + j * ((1 + aa) * nn))) (vi_k rfl))))) (Nat.le_of_ble_eq_true rfl) eX12_rootOfForest_53 (fun r σ3 hp => ?_)
    obtain ⟨rfl, hC3, hk3, hv3⟩ := hp
    have hbx2 : bt σ2 kx = bt σ kx := (bt_same (hk2 kx (by omega))).trans hbx
    have hbx3 : bt σ3 kx = bt σ kx := (bt_same (hk3 kx (by omega))).trans hbx2
    have h33 : sl (bt σ3 33) 0 nn = fF θ sh nn P H 3 i 0 (lfN T aa j) (sl (bt σ kx) (a + j * ((1 + aa) * nn)) nn) := by rw [hv3, sl_wr' (fF_len _ _ _ _ _), hbx2]
    refine v_aload_n C eX12_rootOfForest_56 rfl 0 rfl ?_
    refine v_iconst (v := (3 : Int32)) C eX12_rootOfForest_57 (by decide) ?_
    refine v_iload_n C eX12_rootOfForest_58 rfl 1 rfl ?_
    refine v_iload C eX12_rootOfForest_59 6 rfl ?_
    refine v_aload_n C eX12_rootOfForest_61 rfl 0 rfl ?_
    refine n_get C I fX12_252_X12 eX12_rootOfForest_62 (hN 49 (by decide)) hC3.s.obj rfl ?_
    refine v_aload_n C eX12_rootOfForest_65 rfl 2 rfl ?_
    refine v_iload C eX12_rootOfForest_66 4 rfl ?_
    refine v_aload_n C eX12_rootOfForest_68 rfl 0 rfl ?_
    refine n_get C I fX12_243_X12 eX12_rootOfForest_69 (hN 49 (by decide)) hC3.s.obj rfl ?_
    refine v_iadd C eX12_rootOfForest_72 ?_
    refine n_callV (As := [.int (nI 3), .int (nI i), .int (nI (lfN T aa j)), .int (nI aa), .ref (ad kx), .int (nI ((a + j * ((1 + aa) * nn)) + nn))]) (rest := []) C I mX12_295 (rc_climb I hN hC3 hkx hx0 (by omega) 3 i (lfN T aa j) aa (a + j * ((1 + aa) * nn) + nn) (by omega) (by omega) (by omega) (by rw [hbx3]; exact nrw_sub hnx (by omega) (by omega)) (by rw [h33]; exact nrw_fF _ _ _ _ _)) (hN 49 (by decide)) hC3.s.obj rfl (by decide) (by decide) ⟨by decide, by decide⟩ rfl (vi_c (ix_add (a := a + j * ((1 + aa) * nn)) (b := nn) (rfl : nI (a + j * ((1 + aa) * nn)) = nI (a + j * ((1 + aa) * nn))) hC3.n) (vi_k (vi_c (hC3.s.i45.trans h45) (vi_c (rfl : nI (lfN T aa j) = nI (lfN T aa j)) (vi_c (rfl : nI i = nI i) (vi_c (rfl : (3 : Int32) = nI 3) rfl)))))) (Nat.le_of_ble_eq_true rfl) eX12_rootOfForest_73 (fun r σ4 hp => ?_)
    obtain ⟨rfl, hC4, hk4, hv4, hw4⟩ := hp
    refine v_aload_n C eX12_rootOfForest_76 rfl 0 rfl ?_
    refine n_get C I fX12_96_X12 eX12_rootOfForest_77 (hN 49 (by decide)) hC4.s.obj rfl ?_
    refine v_iconst (v := (0 : Int32)) C eX12_rootOfForest_80 (by decide) ?_
    refine v_aload_n C eX12_rootOfForest_81 rfl 0 rfl ?_
    refine n_get C I fX12_90_X12 eX12_rootOfForest_82 (hN 49 (by decide)) hC4.s.obj rfl ?_
    refine v_iload C eX12_rootOfForest_85 5 rfl ?_
    refine v_aload_n C eX12_rootOfForest_87 rfl 0 rfl ?_
    refine n_get C I fX12_243_X12 eX12_rootOfForest_88 (hN 49 (by decide)) hC4.s.obj rfl ?_
    refine v_imul C eX12_rootOfForest_91 ?_
    refine v_aload_n C eX12_rootOfForest_92 rfl 0 rfl ?_
    refine n_get C I fX12_243_X12 eX12_rootOfForest_93 (hN 49 (by decide)) hC4.s.obj rfl ?_
    refine n_callS (av := [.ref (ad 33), .int (nI 0), .ref (ad 31), .int (nI (j * nn)), .int (nI nn)]) (rest := []) C mX12_239 (rc_mv I hN hC4 (kx := 33) (nx := 64) (ko := 31) (no := 2048) rfl (by decide) rfl (by decide) (by decide) (by decide) 0 (j * nn) nn (by omega) (by omega) hw4) rfl (by decide) (by decide) ⟨by decide, by decide⟩ rfl (vi_c hC4.n (vi_c (ix_mul (a := j) (b := nn) (rfl : nI j = nI j) hC4.n) (vi_k (vi_c (rfl : (0 : Int32) = nI 0) (vi_k rfl))))) (Nat.le_of_ble_eq_true rfl) eX12_rootOfForest_96 (fun r σ5 hp => ?_)
    obtain ⟨rfl, hC5, hk5, hv5⟩ := hp
    refine v_iload C eX12_rootOfForest_99 4 rfl ?_
    refine v_iconst (v := (1 : Int32)) C eX12_rootOfForest_101 (by decide) ?_
    refine v_aload_n C eX12_rootOfForest_102 rfl 0 rfl ?_
    refine n_get C I fX12_252_X12 eX12_rootOfForest_103 (hN 49 (by decide)) hC5.s.obj rfl ?_
    refine v_iadd C eX12_rootOfForest_106 ?_
    refine v_aload_n C eX12_rootOfForest_107 rfl 0 rfl ?_
    refine n_get C I fX12_243_X12 eX12_rootOfForest_108 (hN 49 (by decide)) hC5.s.obj rfl ?_
    refine v_imul C eX12_rootOfForest_111 ?_
    refine v_iadd C eX12_rootOfForest_112 ?_
    refine v_natT (show (nI (a + j * ((1 + aa) * nn))) + ((((1 : Int32)) + ((ox σ5) 45)) * ((ox σ5) 41)) = nI (a + (j + 1) * ((1 + aa) * nn)) from ((ix_add (a := a + j * ((1 + aa) * nn)) (b := (1 + aa) * nn) (rfl : nI (a + j * ((1 + aa) * nn)) = nI (a + j * ((1 + aa) * nn))) (ix_mul (a := 1 + aa) (b := nn) (ix_add (a := 1) (b := aa) (rfl : (1 : Int32) = nI 1) (hC5.s.i45.trans h45)) hC5.n))).trans (congrArg nI (by rw [Nat.succ_mul]; omega))) ?_
    refine v_istore (lv' := [(0, .ref (ad 49)), (1, .int (nI i)), (2, .ref (ad kx)), (3, .int (nI a)), (4, .int (nI (a + (j + 1) * ((1 + aa) * nn)))), (5, .int (nI j)), (6, .int (nI (lfN T aa j)))]) C eX12_rootOfForest_113 (by decide) [1, 2, 3, 4, 0, 5, 6] rfl ?_
    refine v_iinc (lv' := [(0, .ref (ad 49)), (1, .int (nI i)), (2, .ref (ad kx)), (3, .int (nI a)), (4, .int (nI (a + (j + 1) * ((1 + aa) * nn)))), (5, .int (nI (j + 1))), (6, .int (nI (lfN T aa j)))]) C eX12_rootOfForest_115 5 rfl (ix_inc _) (by decide) [1, 2, 3, 4, 5, 0, 6] rfl ?_
    refine v_goto (tgt := 6) C eX12_rootOfForest_118 (by decide) ?_
    refine v_pick (lv' := [(0, .ref (ad 49)), (1, .int (nI i)), (2, .ref (ad kx)), (3, .int (nI a)), (4, .int (nI (a + (j + 1) * ((1 + aa) * nn)))), (5, .int (nI (j + 1)))]) [0, 1, 2, 3, 4, 5] rfl ?_
    refine ih σ5 ⟨hC5, fun k hk => (hk5 k (by omega)).trans ((hk4 k (by omega)).trans ((hk3 k (by omega)).trans ((hk2 k (by omega)).trans (hk1 k hk)))), ?_⟩
    rw [hv5, hv4, h33, hbx3, bt_same (hk4 31 (by omega)), bt_same (hk3 31 (by omega)), bt_same (hk2 31 (by omega)), hv1, wr_app (by rw [cat_len rfB_len, Nat.zero_add])]
    rfl

end M23
