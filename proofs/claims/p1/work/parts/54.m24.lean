theorem eX12_digestOf_0 : vD cX12_digestOf 0 (.iload_n 0) 1 1 := ⟨by decide +kernel, rfl⟩
theorem eX12_digestOf_1 : vD cX12_digestOf 1 (.tableswitch 72 1 12 #[63, 66, 69, 72, 72, 63, 72, 63, 66, 69, 63, 69]) 63 64 := ⟨by decide +kernel, rfl⟩
theorem eX12_digestOf_64 : vD cX12_digestOf 64 (.bipush 32) 2 66 := ⟨by decide +kernel, rfl⟩
theorem eX12_digestOf_66 : vD cX12_digestOf 66 .ireturn 1 67 := ⟨by decide +kernel, rfl⟩
theorem eX12_digestOf_67 : vD cX12_digestOf 67 (.bipush 48) 2 69 := ⟨by decide +kernel, rfl⟩
theorem eX12_digestOf_69 : vD cX12_digestOf 69 .ireturn 1 70 := ⟨by decide +kernel, rfl⟩
theorem eX12_digestOf_70 : vD cX12_digestOf 70 (.bipush 64) 2 72 := ⟨by decide +kernel, rfl⟩
theorem eX12_digestOf_72 : vD cX12_digestOf 72 .ireturn 1 73 := ⟨by decide +kernel, rfl⟩
theorem eX12_digestOf_73 : vD cX12_digestOf 73 (.bipush 28) 2 75 := ⟨by decide +kernel, rfl⟩
theorem eX12_digestOf_75 : vD cX12_digestOf 75 .ireturn 1 76 := ⟨by decide +kernel, rfl⟩
theorem eX12_startMac_0 : vD cX12_startMac 0 (.iload_n 1) 1 1 := ⟨by decide +kernel, rfl⟩
theorem eX12_startMac_1 : vD cX12_startMac 1 (.invokestatic 190) 3 4 := ⟨by decide +kernel, rfl⟩
theorem eX12_startMac_4 : vD cX12_startMac 4 (.istore 5) 2 6 := ⟨by decide +kernel, rfl⟩
theorem eX12_startMac_6 : vD cX12_startMac 6 (.iconst 0) 1 7 := ⟨by decide +kernel, rfl⟩
theorem eX12_startMac_7 : vD cX12_startMac 7 (.istore 6) 2 9 := ⟨by decide +kernel, rfl⟩
theorem eX12_startMac_9 : vD cX12_startMac 9 (.iload 6) 2 11 := ⟨by decide +kernel, rfl⟩
theorem eX12_startMac_11 : vD cX12_startMac 11 (.sipush 128) 3 14 := ⟨by decide +kernel, rfl⟩
theorem eX12_startMac_14 : vD cX12_startMac 14 (.if_icmp .ge 17) 3 17 := ⟨by decide +kernel, rfl⟩
theorem eX12_startMac_17 : vD cX12_startMac 17 (.aload_n 0) 1 18 := ⟨by decide +kernel, rfl⟩
theorem eX12_startMac_18 : vD cX12_startMac 18 (.getfield 63) 3 21 := ⟨by decide +kernel, rfl⟩
theorem eX12_startMac_21 : vD cX12_startMac 21 (.iload 6) 2 23 := ⟨by decide +kernel, rfl⟩
theorem eX12_startMac_23 : vD cX12_startMac 23 (.iconst 0) 1 24 := ⟨by decide +kernel, rfl⟩
theorem eX12_startMac_24 : vD cX12_startMac 24 .bastore 1 25 := ⟨by decide +kernel, rfl⟩
theorem eX12_startMac_25 : vD cX12_startMac 25 (.iinc 6 1) 3 28 := ⟨by decide +kernel, rfl⟩
theorem eX12_startMac_28 : vD cX12_startMac 28 (.goto (-19)) 3 31 := ⟨by decide +kernel, rfl⟩
theorem eX12_startMac_31 : vD cX12_startMac 31 (.iload 4) 2 33 := ⟨by decide +kernel, rfl⟩
theorem eX12_startMac_33 : vD cX12_startMac 33 (.iload 5) 2 35 := ⟨by decide +kernel, rfl⟩
theorem eX12_startMac_35 : vD cX12_startMac 35 (.if_icmp .le 32) 3 38 := ⟨by decide +kernel, rfl⟩
theorem eX12_startMac_38 : vD cX12_startMac 38 (.aload_n 0) 1 39 := ⟨by decide +kernel, rfl⟩
theorem eX12_startMac_39 : vD cX12_startMac 39 (.iload_n 1) 1 40 := ⟨by decide +kernel, rfl⟩
theorem eX12_startMac_40 : vD cX12_startMac 40 (.invokevirtual 166) 3 43 := ⟨by decide +kernel, rfl⟩
theorem eX12_startMac_43 : vD cX12_startMac 43 (.aload_n 0) 1 44 := ⟨by decide +kernel, rfl⟩
theorem eX12_startMac_44 : vD cX12_startMac 44 (.aload_n 2) 1 45 := ⟨by decide +kernel, rfl⟩
theorem eX12_startMac_45 : vD cX12_startMac 45 (.iload_n 3) 1 46 := ⟨by decide +kernel, rfl⟩
theorem eX12_startMac_46 : vD cX12_startMac 46 (.iload 4) 2 48 := ⟨by decide +kernel, rfl⟩
theorem eX12_startMac_48 : vD cX12_startMac 48 (.invokevirtual 233) 3 51 := ⟨by decide +kernel, rfl⟩
theorem eX12_startMac_51 : vD cX12_startMac 51 (.aload_n 0) 1 52 := ⟨by decide +kernel, rfl⟩
theorem eX12_startMac_52 : vD cX12_startMac 52 (.aload_n 0) 1 53 := ⟨by decide +kernel, rfl⟩
theorem eX12_startMac_53 : vD cX12_startMac 53 (.getfield 63) 3 56 := ⟨by decide +kernel, rfl⟩
theorem eX12_startMac_56 : vD cX12_startMac 56 (.iconst 0) 1 57 := ⟨by decide +kernel, rfl⟩
theorem eX12_startMac_57 : vD cX12_startMac 57 (.iload_n 1) 1 58 := ⟨by decide +kernel, rfl⟩
theorem eX12_startMac_58 : vD cX12_startMac 58 (.invokestatic 187) 3 61 := ⟨by decide +kernel, rfl⟩
theorem eX12_startMac_61 : vD cX12_startMac 61 (.invokevirtual 236) 3 64 := ⟨by decide +kernel, rfl⟩
theorem eX12_startMac_64 : vD cX12_startMac 64 (.goto 15) 3 67 := ⟨by decide +kernel, rfl⟩
theorem eX12_startMac_67 : vD cX12_startMac 67 (.aload_n 2) 1 68 := ⟨by decide +kernel, rfl⟩
theorem eX12_startMac_68 : vD cX12_startMac 68 (.iload_n 3) 1 69 := ⟨by decide +kernel, rfl⟩
theorem eX12_startMac_69 : vD cX12_startMac 69 (.aload_n 0) 1 70 := ⟨by decide +kernel, rfl⟩
theorem eX12_startMac_70 : vD cX12_startMac 70 (.getfield 63) 3 73 := ⟨by decide +kernel, rfl⟩
theorem eX12_startMac_73 : vD cX12_startMac 73 (.iconst 0) 1 74 := ⟨by decide +kernel, rfl⟩
theorem eX12_startMac_74 : vD cX12_startMac 74 (.iload 4) 2 76 := ⟨by decide +kernel, rfl⟩
theorem eX12_startMac_76 : vD cX12_startMac 76 (.invokestatic 239) 3 79 := ⟨by decide +kernel, rfl⟩
theorem eX12_startMac_79 : vD cX12_startMac 79 (.aload_n 0) 1 80 := ⟨by decide +kernel, rfl⟩
theorem eX12_startMac_80 : vD cX12_startMac 80 (.iload_n 1) 1 81 := ⟨by decide +kernel, rfl⟩
theorem eX12_startMac_81 : vD cX12_startMac 81 (.invokevirtual 166) 3 84 := ⟨by decide +kernel, rfl⟩
theorem eX12_startMac_84 : vD cX12_startMac 84 (.iconst 0) 1 85 := ⟨by decide +kernel, rfl⟩
theorem eX12_startMac_85 : vD cX12_startMac 85 (.istore 6) 2 87 := ⟨by decide +kernel, rfl⟩
theorem eX12_startMac_87 : vD cX12_startMac 87 (.iload 6) 2 89 := ⟨by decide +kernel, rfl⟩
theorem eX12_startMac_89 : vD cX12_startMac 89 (.iload 5) 2 91 := ⟨by decide +kernel, rfl⟩
theorem eX12_startMac_91 : vD cX12_startMac 91 (.if_icmp .ge 23) 3 94 := ⟨by decide +kernel, rfl⟩
theorem eX12_startMac_94 : vD cX12_startMac 94 (.aload_n 0) 1 95 := ⟨by decide +kernel, rfl⟩
theorem eX12_startMac_95 : vD cX12_startMac 95 (.aload_n 0) 1 96 := ⟨by decide +kernel, rfl⟩
theorem eX12_startMac_96 : vD cX12_startMac 96 (.getfield 63) 3 99 := ⟨by decide +kernel, rfl⟩
theorem eX12_startMac_99 : vD cX12_startMac 99 (.iload 6) 2 101 := ⟨by decide +kernel, rfl⟩
theorem eX12_startMac_101 : vD cX12_startMac 101 .baload 1 102 := ⟨by decide +kernel, rfl⟩
theorem eX12_startMac_102 : vD cX12_startMac 102 (.bipush 54) 2 104 := ⟨by decide +kernel, rfl⟩
theorem eX12_startMac_104 : vD cX12_startMac 104 .ixor 1 105 := ⟨by decide +kernel, rfl⟩
theorem eX12_startMac_105 : vD cX12_startMac 105 (.invokevirtual 171) 3 108 := ⟨by decide +kernel, rfl⟩
theorem eX12_startMac_108 : vD cX12_startMac 108 (.iinc 6 1) 3 111 := ⟨by decide +kernel, rfl⟩
theorem eX12_startMac_111 : vD cX12_startMac 111 (.goto (-24)) 3 114 := ⟨by decide +kernel, rfl⟩
theorem eX12_startMac_114 : vD cX12_startMac 114 .return_ 1 115 := ⟨by decide +kernel, rfl⟩
theorem eX12_endMac_0 : vD cX12_endMac 0 (.iload_n 1) 1 1 := ⟨by decide +kernel, rfl⟩
theorem eX12_endMac_1 : vD cX12_endMac 1 (.invokestatic 190) 3 4 := ⟨by decide +kernel, rfl⟩
theorem eX12_endMac_4 : vD cX12_endMac 4 (.istore 5) 2 6 := ⟨by decide +kernel, rfl⟩
theorem eX12_endMac_6 : vD cX12_endMac 6 (.aload_n 0) 1 7 := ⟨by decide +kernel, rfl⟩
theorem eX12_endMac_7 : vD cX12_endMac 7 (.aload_n 0) 1 8 := ⟨by decide +kernel, rfl⟩
theorem eX12_endMac_8 : vD cX12_endMac 8 (.getfield 66) 3 11 := ⟨by decide +kernel, rfl⟩
theorem eX12_endMac_11 : vD cX12_endMac 11 (.iconst 0) 1 12 := ⟨by decide +kernel, rfl⟩
theorem eX12_endMac_12 : vD cX12_endMac 12 (.iload_n 1) 1 13 := ⟨by decide +kernel, rfl⟩
theorem eX12_endMac_13 : vD cX12_endMac 13 (.invokestatic 187) 3 16 := ⟨by decide +kernel, rfl⟩
theorem eX12_endMac_16 : vD cX12_endMac 16 (.invokevirtual 236) 3 19 := ⟨by decide +kernel, rfl⟩
theorem eX12_endMac_19 : vD cX12_endMac 19 (.aload_n 0) 1 20 := ⟨by decide +kernel, rfl⟩
theorem eX12_endMac_20 : vD cX12_endMac 20 (.iload_n 1) 1 21 := ⟨by decide +kernel, rfl⟩
theorem eX12_endMac_21 : vD cX12_endMac 21 (.invokevirtual 166) 3 24 := ⟨by decide +kernel, rfl⟩
theorem eX12_endMac_24 : vD cX12_endMac 24 (.iconst 0) 1 25 := ⟨by decide +kernel, rfl⟩
theorem eX12_endMac_25 : vD cX12_endMac 25 (.istore 6) 2 27 := ⟨by decide +kernel, rfl⟩
theorem eX12_endMac_27 : vD cX12_endMac 27 (.iload 6) 2 29 := ⟨by decide +kernel, rfl⟩
theorem eX12_endMac_29 : vD cX12_endMac 29 (.iload 5) 2 31 := ⟨by decide +kernel, rfl⟩
theorem eX12_endMac_31 : vD cX12_endMac 31 (.if_icmp .ge 23) 3 34 := ⟨by decide +kernel, rfl⟩
theorem eX12_endMac_34 : vD cX12_endMac 34 (.aload_n 0) 1 35 := ⟨by decide +kernel, rfl⟩
theorem eX12_endMac_35 : vD cX12_endMac 35 (.aload_n 0) 1 36 := ⟨by decide +kernel, rfl⟩
theorem eX12_endMac_36 : vD cX12_endMac 36 (.getfield 63) 3 39 := ⟨by decide +kernel, rfl⟩
theorem eX12_endMac_39 : vD cX12_endMac 39 (.iload 6) 2 41 := ⟨by decide +kernel, rfl⟩
theorem eX12_endMac_41 : vD cX12_endMac 41 .baload 1 42 := ⟨by decide +kernel, rfl⟩
theorem eX12_endMac_42 : vD cX12_endMac 42 (.bipush 92) 2 44 := ⟨by decide +kernel, rfl⟩
theorem eX12_endMac_44 : vD cX12_endMac 44 .ixor 1 45 := ⟨by decide +kernel, rfl⟩
theorem eX12_endMac_45 : vD cX12_endMac 45 (.invokevirtual 171) 3 48 := ⟨by decide +kernel, rfl⟩
theorem eX12_endMac_48 : vD cX12_endMac 48 (.iinc 6 1) 3 51 := ⟨by decide +kernel, rfl⟩
theorem eX12_endMac_51 : vD cX12_endMac 51 (.goto (-24)) 3 54 := ⟨by decide +kernel, rfl⟩
theorem eX12_endMac_54 : vD cX12_endMac 54 (.aload_n 0) 1 55 := ⟨by decide +kernel, rfl⟩
theorem eX12_endMac_55 : vD cX12_endMac 55 (.aload_n 0) 1 56 := ⟨by decide +kernel, rfl⟩
theorem eX12_endMac_56 : vD cX12_endMac 56 (.getfield 66) 3 59 := ⟨by decide +kernel, rfl⟩
theorem eX12_endMac_59 : vD cX12_endMac 59 (.iconst 0) 1 60 := ⟨by decide +kernel, rfl⟩
theorem eX12_endMac_60 : vD cX12_endMac 60 (.iload_n 1) 1 61 := ⟨by decide +kernel, rfl⟩
theorem eX12_endMac_61 : vD cX12_endMac 61 (.invokestatic 187) 3 64 := ⟨by decide +kernel, rfl⟩
theorem eX12_endMac_64 : vD cX12_endMac 64 (.invokevirtual 233) 3 67 := ⟨by decide +kernel, rfl⟩
theorem eX12_endMac_67 : vD cX12_endMac 67 (.aload_n 0) 1 68 := ⟨by decide +kernel, rfl⟩
theorem eX12_endMac_68 : vD cX12_endMac 68 (.aload_n 2) 1 69 := ⟨by decide +kernel, rfl⟩
theorem eX12_endMac_69 : vD cX12_endMac 69 (.iload_n 3) 1 70 := ⟨by decide +kernel, rfl⟩
theorem eX12_endMac_70 : vD cX12_endMac 70 (.iload 4) 2 72 := ⟨by decide +kernel, rfl⟩
theorem eX12_endMac_72 : vD cX12_endMac 72 (.invokevirtual 236) 3 75 := ⟨by decide +kernel, rfl⟩
theorem eX12_endMac_75 : vD cX12_endMac 75 .return_ 1 76 := ⟨by decide +kernel, rfl⟩
theorem eX12_mask_0 : vD cX12_mask 0 (.iload_n 1) 1 1 := ⟨by decide +kernel, rfl⟩
theorem eX12_mask_1 : vD cX12_mask 1 (.invokestatic 187) 3 4 := ⟨by decide +kernel, rfl⟩
theorem eX12_mask_4 : vD cX12_mask 4 (.istore 7) 2 6 := ⟨by decide +kernel, rfl⟩
theorem eX12_mask_6 : vD cX12_mask 6 (.iconst 0) 1 7 := ⟨by decide +kernel, rfl⟩
theorem eX12_mask_7 : vD cX12_mask 7 (.istore 8) 2 9 := ⟨by decide +kernel, rfl⟩
theorem eX12_mask_9 : vD cX12_mask 9 (.iload 8) 2 11 := ⟨by decide +kernel, rfl⟩
theorem eX12_mask_11 : vD cX12_mask 11 (.iload 7) 2 13 := ⟨by decide +kernel, rfl⟩
theorem eX12_mask_13 : vD cX12_mask 13 .imul 1 14 := ⟨by decide +kernel, rfl⟩
theorem eX12_mask_14 : vD cX12_mask 14 (.iload 6) 2 16 := ⟨by decide +kernel, rfl⟩
theorem eX12_mask_16 : vD cX12_mask 16 (.if_icmp .ge 100) 3 19 := ⟨by decide +kernel, rfl⟩
theorem eX12_mask_19 : vD cX12_mask 19 (.aload_n 0) 1 20 := ⟨by decide +kernel, rfl⟩
theorem eX12_mask_20 : vD cX12_mask 20 (.iload_n 1) 1 21 := ⟨by decide +kernel, rfl⟩
theorem eX12_mask_21 : vD cX12_mask 21 (.invokevirtual 166) 3 24 := ⟨by decide +kernel, rfl⟩
theorem eX12_mask_24 : vD cX12_mask 24 (.aload_n 0) 1 25 := ⟨by decide +kernel, rfl⟩
theorem eX12_mask_25 : vD cX12_mask 25 (.aload_n 2) 1 26 := ⟨by decide +kernel, rfl⟩
theorem eX12_mask_26 : vD cX12_mask 26 (.iconst 0) 1 27 := ⟨by decide +kernel, rfl⟩
theorem eX12_mask_27 : vD cX12_mask 27 (.iload_n 3) 1 28 := ⟨by decide +kernel, rfl⟩
theorem eX12_mask_28 : vD cX12_mask 28 (.invokevirtual 233) 3 31 := ⟨by decide +kernel, rfl⟩
theorem eX12_mask_31 : vD cX12_mask 31 (.bipush 24) 2 33 := ⟨by decide +kernel, rfl⟩
theorem eX12_mask_33 : vD cX12_mask 33 (.istore 9) 2 35 := ⟨by decide +kernel, rfl⟩
theorem eX12_mask_35 : vD cX12_mask 35 (.iload 9) 2 37 := ⟨by decide +kernel, rfl⟩
theorem eX12_mask_37 : vD cX12_mask 37 (.ifCond .lt 18) 3 40 := ⟨by decide +kernel, rfl⟩
theorem eX12_mask_40 : vD cX12_mask 40 (.aload_n 0) 1 41 := ⟨by decide +kernel, rfl⟩
theorem eX12_mask_41 : vD cX12_mask 41 (.iload 8) 2 43 := ⟨by decide +kernel, rfl⟩
theorem eX12_mask_43 : vD cX12_mask 43 (.iload 9) 2 45 := ⟨by decide +kernel, rfl⟩
theorem eX12_mask_45 : vD cX12_mask 45 .ishr 1 46 := ⟨by decide +kernel, rfl⟩
theorem eX12_mask_46 : vD cX12_mask 46 (.invokevirtual 171) 3 49 := ⟨by decide +kernel, rfl⟩
theorem eX12_mask_49 : vD cX12_mask 49 (.iinc 9 (-8)) 3 52 := ⟨by decide +kernel, rfl⟩
theorem eX12_mask_52 : vD cX12_mask 52 (.goto (-17)) 3 55 := ⟨by decide +kernel, rfl⟩
theorem eX12_mask_55 : vD cX12_mask 55 (.aload_n 0) 1 56 := ⟨by decide +kernel, rfl⟩
theorem eX12_mask_56 : vD cX12_mask 56 (.aload_n 0) 1 57 := ⟨by decide +kernel, rfl⟩
theorem eX12_mask_57 : vD cX12_mask 57 (.getfield 66) 3 60 := ⟨by decide +kernel, rfl⟩
theorem eX12_mask_60 : vD cX12_mask 60 (.iconst 0) 1 61 := ⟨by decide +kernel, rfl⟩
theorem eX12_mask_61 : vD cX12_mask 61 (.iload 7) 2 63 := ⟨by decide +kernel, rfl⟩
theorem eX12_mask_63 : vD cX12_mask 63 (.invokevirtual 236) 3 66 := ⟨by decide +kernel, rfl⟩
theorem eX12_mask_66 : vD cX12_mask 66 (.aload_n 0) 1 67 := ⟨by decide +kernel, rfl⟩
theorem eX12_mask_67 : vD cX12_mask 67 (.getfield 66) 3 70 := ⟨by decide +kernel, rfl⟩
theorem eX12_mask_70 : vD cX12_mask 70 (.iconst 0) 1 71 := ⟨by decide +kernel, rfl⟩
theorem eX12_mask_71 : vD cX12_mask 71 (.aload 4) 2 73 := ⟨by decide +kernel, rfl⟩
theorem eX12_mask_73 : vD cX12_mask 73 (.iload 5) 2 75 := ⟨by decide +kernel, rfl⟩
theorem eX12_mask_75 : vD cX12_mask 75 (.iload 8) 2 77 := ⟨by decide +kernel, rfl⟩
theorem eX12_mask_77 : vD cX12_mask 77 (.iload 7) 2 79 := ⟨by decide +kernel, rfl⟩
theorem eX12_mask_79 : vD cX12_mask 79 .imul 1 80 := ⟨by decide +kernel, rfl⟩
theorem eX12_mask_80 : vD cX12_mask 80 .iadd 1 81 := ⟨by decide +kernel, rfl⟩
theorem eX12_mask_81 : vD cX12_mask 81 (.iload 6) 2 83 := ⟨by decide +kernel, rfl⟩
theorem eX12_mask_83 : vD cX12_mask 83 (.iload 8) 2 85 := ⟨by decide +kernel, rfl⟩
theorem eX12_mask_85 : vD cX12_mask 85 (.iload 7) 2 87 := ⟨by decide +kernel, rfl⟩
theorem eX12_mask_87 : vD cX12_mask 87 .imul 1 88 := ⟨by decide +kernel, rfl⟩
theorem eX12_mask_88 : vD cX12_mask 88 .isub 1 89 := ⟨by decide +kernel, rfl⟩
theorem eX12_mask_89 : vD cX12_mask 89 (.iload 7) 2 91 := ⟨by decide +kernel, rfl⟩
theorem eX12_mask_91 : vD cX12_mask 91 (.if_icmp .ge 14) 3 94 := ⟨by decide +kernel, rfl⟩
theorem eX12_mask_94 : vD cX12_mask 94 (.iload 6) 2 96 := ⟨by decide +kernel, rfl⟩
theorem eX12_mask_96 : vD cX12_mask 96 (.iload 8) 2 98 := ⟨by decide +kernel, rfl⟩
theorem eX12_mask_98 : vD cX12_mask 98 (.iload 7) 2 100 := ⟨by decide +kernel, rfl⟩
theorem eX12_mask_100 : vD cX12_mask 100 .imul 1 101 := ⟨by decide +kernel, rfl⟩
theorem eX12_mask_101 : vD cX12_mask 101 .isub 1 102 := ⟨by decide +kernel, rfl⟩
theorem eX12_mask_102 : vD cX12_mask 102 (.goto 5) 3 105 := ⟨by decide +kernel, rfl⟩
theorem eX12_mask_105 : vD cX12_mask 105 (.iload 7) 2 107 := ⟨by decide +kernel, rfl⟩
theorem eX12_mask_107 : vD cX12_mask 107 (.invokestatic 239) 3 110 := ⟨by decide +kernel, rfl⟩
theorem eX12_mask_110 : vD cX12_mask 110 (.iinc 8 1) 3 113 := ⟨by decide +kernel, rfl⟩
theorem eX12_mask_113 : vD cX12_mask 113 (.goto (-104)) 3 116 := ⟨by decide +kernel, rfl⟩
theorem eX12_mask_116 : vD cX12_mask 116 .return_ 1 117 := ⟨by decide +kernel, rfl⟩
theorem eX12_putSigned_0 : vD cX12_putSigned 0 (.iload_n 1) 1 1 := ⟨by decide +kernel, rfl⟩
theorem eX12_putSigned_1 : vD cX12_putSigned 1 (.ifCond .lt 43) 3 4 := ⟨by decide +kernel, rfl⟩
theorem eX12_putSigned_4 : vD cX12_putSigned 4 (.aload_n 0) 1 5 := ⟨by decide +kernel, rfl⟩
theorem eX12_putSigned_5 : vD cX12_putSigned 5 (.iload_n 1) 1 6 := ⟨by decide +kernel, rfl⟩
theorem eX12_putSigned_6 : vD cX12_putSigned 6 (.ifCond .ne 7) 3 9 := ⟨by decide +kernel, rfl⟩
theorem eX12_putSigned_9 : vD cX12_putSigned 9 (.iconst 0) 1 10 := ⟨by decide +kernel, rfl⟩
theorem eX12_putSigned_10 : vD cX12_putSigned 10 (.goto 4) 3 13 := ⟨by decide +kernel, rfl⟩
theorem eX12_putSigned_13 : vD cX12_putSigned 13 (.iconst 1) 1 14 := ⟨by decide +kernel, rfl⟩
theorem eX12_putSigned_14 : vD cX12_putSigned 14 (.invokevirtual 171) 3 17 := ⟨by decide +kernel, rfl⟩
theorem eX12_putSigned_17 : vD cX12_putSigned 17 (.aload_n 0) 1 18 := ⟨by decide +kernel, rfl⟩
theorem eX12_putSigned_18 : vD cX12_putSigned 18 (.aload_n 0) 1 19 := ⟨by decide +kernel, rfl⟩
theorem eX12_putSigned_19 : vD cX12_putSigned 19 (.getfield 19) 3 22 := ⟨by decide +kernel, rfl⟩
theorem eX12_putSigned_22 : vD cX12_putSigned 22 (.iconst 4) 1 23 := ⟨by decide +kernel, rfl⟩
theorem eX12_putSigned_23 : vD cX12_putSigned 23 .iaload 1 24 := ⟨by decide +kernel, rfl⟩
theorem eX12_putSigned_24 : vD cX12_putSigned 24 (.invokevirtual 171) 3 27 := ⟨by decide +kernel, rfl⟩
theorem eX12_putSigned_27 : vD cX12_putSigned 27 (.aload_n 0) 1 28 := ⟨by decide +kernel, rfl⟩
theorem eX12_putSigned_28 : vD cX12_putSigned 28 (.aload_n 0) 1 29 := ⟨by decide +kernel, rfl⟩
theorem eX12_putSigned_29 : vD cX12_putSigned 29 (.getfield 16) 3 32 := ⟨by decide +kernel, rfl⟩
theorem eX12_putSigned_32 : vD cX12_putSigned 32 (.iconst 4) 1 33 := ⟨by decide +kernel, rfl⟩
theorem eX12_putSigned_33 : vD cX12_putSigned 33 .aaload 1 34 := ⟨by decide +kernel, rfl⟩
theorem eX12_putSigned_34 : vD cX12_putSigned 34 (.iconst 0) 1 35 := ⟨by decide +kernel, rfl⟩
theorem eX12_putSigned_35 : vD cX12_putSigned 35 (.aload_n 0) 1 36 := ⟨by decide +kernel, rfl⟩
theorem eX12_putSigned_36 : vD cX12_putSigned 36 (.getfield 19) 3 39 := ⟨by decide +kernel, rfl⟩
theorem eX12_putSigned_39 : vD cX12_putSigned 39 (.iconst 4) 1 40 := ⟨by decide +kernel, rfl⟩
theorem eX12_putSigned_40 : vD cX12_putSigned 40 .iaload 1 41 := ⟨by decide +kernel, rfl⟩
theorem eX12_putSigned_41 : vD cX12_putSigned 41 (.invokevirtual 233) 3 44 := ⟨by decide +kernel, rfl⟩
theorem eX12_putSigned_44 : vD cX12_putSigned 44 (.iload_n 1) 1 45 := ⟨by decide +kernel, rfl⟩
theorem eX12_putSigned_45 : vD cX12_putSigned 45 (.ifCond .le 81) 3 48 := ⟨by decide +kernel, rfl⟩
theorem eX12_putSigned_48 : vD cX12_putSigned 48 (.aload_n 0) 1 49 := ⟨by decide +kernel, rfl⟩
theorem eX12_putSigned_49 : vD cX12_putSigned 49 (.bipush 6) 2 51 := ⟨by decide +kernel, rfl⟩
theorem eX12_putSigned_51 : vD cX12_putSigned 51 (.invokevirtual 171) 3 54 := ⟨by decide +kernel, rfl⟩
theorem eX12_putSigned_54 : vD cX12_putSigned 54 (.aload_n 0) 1 55 := ⟨by decide +kernel, rfl⟩
theorem eX12_putSigned_55 : vD cX12_putSigned 55 (.bipush 9) 2 57 := ⟨by decide +kernel, rfl⟩
theorem eX12_putSigned_57 : vD cX12_putSigned 57 (.invokevirtual 171) 3 60 := ⟨by decide +kernel, rfl⟩
theorem eX12_putSigned_60 : vD cX12_putSigned 60 (.aload_n 0) 1 61 := ⟨by decide +kernel, rfl⟩
theorem eX12_putSigned_61 : vD cX12_putSigned 61 (.bipush 96) 2 63 := ⟨by decide +kernel, rfl⟩
theorem eX12_putSigned_63 : vD cX12_putSigned 63 (.invokevirtual 171) 3 66 := ⟨by decide +kernel, rfl⟩
theorem eX12_putSigned_66 : vD cX12_putSigned 66 (.aload_n 0) 1 67 := ⟨by decide +kernel, rfl⟩
theorem eX12_putSigned_67 : vD cX12_putSigned 67 (.sipush 134) 3 70 := ⟨by decide +kernel, rfl⟩
theorem eX12_putSigned_70 : vD cX12_putSigned 70 (.invokevirtual 171) 3 73 := ⟨by decide +kernel, rfl⟩
theorem eX12_putSigned_73 : vD cX12_putSigned 73 (.aload_n 0) 1 74 := ⟨by decide +kernel, rfl⟩
theorem eX12_putSigned_74 : vD cX12_putSigned 74 (.bipush 72) 2 76 := ⟨by decide +kernel, rfl⟩
theorem eX12_putSigned_76 : vD cX12_putSigned 76 (.invokevirtual 171) 3 79 := ⟨by decide +kernel, rfl⟩
theorem eX12_putSigned_79 : vD cX12_putSigned 79 (.aload_n 0) 1 80 := ⟨by decide +kernel, rfl⟩
theorem eX12_putSigned_80 : vD cX12_putSigned 80 (.iconst 1) 1 81 := ⟨by decide +kernel, rfl⟩
theorem eX12_putSigned_81 : vD cX12_putSigned 81 (.invokevirtual 171) 3 84 := ⟨by decide +kernel, rfl⟩
theorem eX12_putSigned_84 : vD cX12_putSigned 84 (.aload_n 0) 1 85 := ⟨by decide +kernel, rfl⟩
theorem eX12_putSigned_85 : vD cX12_putSigned 85 (.bipush 101) 2 87 := ⟨by decide +kernel, rfl⟩
theorem eX12_putSigned_87 : vD cX12_putSigned 87 (.invokevirtual 171) 3 90 := ⟨by decide +kernel, rfl⟩
theorem eX12_putSigned_90 : vD cX12_putSigned 90 (.aload_n 0) 1 91 := ⟨by decide +kernel, rfl⟩
theorem eX12_putSigned_91 : vD cX12_putSigned 91 (.iconst 3) 1 92 := ⟨by decide +kernel, rfl⟩
theorem eX12_putSigned_92 : vD cX12_putSigned 92 (.invokevirtual 171) 3 95 := ⟨by decide +kernel, rfl⟩
theorem eX12_putSigned_95 : vD cX12_putSigned 95 (.aload_n 0) 1 96 := ⟨by decide +kernel, rfl⟩
theorem eX12_putSigned_96 : vD cX12_putSigned 96 (.iconst 4) 1 97 := ⟨by decide +kernel, rfl⟩
theorem eX12_putSigned_97 : vD cX12_putSigned 97 (.invokevirtual 171) 3 100 := ⟨by decide +kernel, rfl⟩
theorem eX12_putSigned_100 : vD cX12_putSigned 100 (.aload_n 0) 1 101 := ⟨by decide +kernel, rfl⟩
theorem eX12_putSigned_101 : vD cX12_putSigned 101 (.iconst 2) 1 102 := ⟨by decide +kernel, rfl⟩
theorem eX12_putSigned_102 : vD cX12_putSigned 102 (.invokevirtual 171) 3 105 := ⟨by decide +kernel, rfl⟩
theorem eX12_putSigned_105 : vD cX12_putSigned 105 (.aload_n 0) 1 106 := ⟨by decide +kernel, rfl⟩
theorem eX12_putSigned_106 : vD cX12_putSigned 106 (.iload_n 1) 1 107 := ⟨by decide +kernel, rfl⟩
theorem eX12_putSigned_107 : vD cX12_putSigned 107 (.invokevirtual 171) 3 110 := ⟨by decide +kernel, rfl⟩
theorem eX12_putSigned_110 : vD cX12_putSigned 110 (.aload_n 0) 1 111 := ⟨by decide +kernel, rfl⟩
theorem eX12_putSigned_111 : vD cX12_putSigned 111 (.aload_n 0) 1 112 := ⟨by decide +kernel, rfl⟩
theorem eX12_putSigned_112 : vD cX12_putSigned 112 (.getfield 69) 3 115 := ⟨by decide +kernel, rfl⟩
theorem eX12_putSigned_115 : vD cX12_putSigned 115 (.iconst 0) 1 116 := ⟨by decide +kernel, rfl⟩
theorem eX12_putSigned_116 : vD cX12_putSigned 116 (.iload_n 1) 1 117 := ⟨by decide +kernel, rfl⟩
theorem eX12_putSigned_117 : vD cX12_putSigned 117 (.invokestatic 187) 3 120 := ⟨by decide +kernel, rfl⟩
theorem eX12_putSigned_120 : vD cX12_putSigned 120 (.invokevirtual 233) 3 123 := ⟨by decide +kernel, rfl⟩
theorem eX12_putSigned_123 : vD cX12_putSigned 123 (.goto 20) 3 126 := ⟨by decide +kernel, rfl⟩
theorem eX12_putSigned_126 : vD cX12_putSigned 126 (.aload_n 0) 1 127 := ⟨by decide +kernel, rfl⟩
theorem eX12_putSigned_127 : vD cX12_putSigned 127 (.aload_n 0) 1 128 := ⟨by decide +kernel, rfl⟩
theorem eX12_putSigned_128 : vD cX12_putSigned 128 (.getfield 16) 3 131 := ⟨by decide +kernel, rfl⟩
theorem eX12_putSigned_131 : vD cX12_putSigned 131 (.iconst 3) 1 132 := ⟨by decide +kernel, rfl⟩
theorem eX12_putSigned_132 : vD cX12_putSigned 132 .aaload 1 133 := ⟨by decide +kernel, rfl⟩
theorem eX12_putSigned_133 : vD cX12_putSigned 133 (.iconst 0) 1 134 := ⟨by decide +kernel, rfl⟩
theorem eX12_putSigned_134 : vD cX12_putSigned 134 (.aload_n 0) 1 135 := ⟨by decide +kernel, rfl⟩
theorem eX12_putSigned_135 : vD cX12_putSigned 135 (.getfield 19) 3 138 := ⟨by decide +kernel, rfl⟩
theorem eX12_putSigned_138 : vD cX12_putSigned 138 (.iconst 3) 1 139 := ⟨by decide +kernel, rfl⟩
theorem eX12_putSigned_139 : vD cX12_putSigned 139 .iaload 1 140 := ⟨by decide +kernel, rfl⟩
theorem eX12_putSigned_140 : vD cX12_putSigned 140 (.invokevirtual 233) 3 143 := ⟨by decide +kernel, rfl⟩
theorem eX12_putSigned_143 : vD cX12_putSigned 143 .return_ 1 144 := ⟨by decide +kernel, rfl⟩
theorem eX12_context_0 : vD cX12_context 0 (.iload_n 1) 1 1 := ⟨by decide +kernel, rfl⟩
theorem eX12_context_1 : vD cX12_context 1 (.ifCond .lt 15) 3 4 := ⟨by decide +kernel, rfl⟩
theorem eX12_context_4 : vD cX12_context 4 (.aload_n 0) 1 5 := ⟨by decide +kernel, rfl⟩
theorem eX12_context_5 : vD cX12_context 5 (.getfield 19) 3 8 := ⟨by decide +kernel, rfl⟩
theorem eX12_context_8 : vD cX12_context 8 (.iconst 4) 1 9 := ⟨by decide +kernel, rfl⟩
theorem eX12_context_9 : vD cX12_context 9 .iaload 1 10 := ⟨by decide +kernel, rfl⟩
theorem eX12_context_10 : vD cX12_context 10 (.sipush 255) 3 13 := ⟨by decide +kernel, rfl⟩
theorem eX12_context_13 : vD cX12_context 13 (.if_icmp .gt 7) 3 16 := ⟨by decide +kernel, rfl⟩
theorem eX12_context_16 : vD cX12_context 16 (.iconst 1) 1 17 := ⟨by decide +kernel, rfl⟩
theorem eX12_context_17 : vD cX12_context 17 (.goto 4) 3 20 := ⟨by decide +kernel, rfl⟩
theorem eX12_context_20 : vD cX12_context 20 (.iconst 0) 1 21 := ⟨by decide +kernel, rfl⟩
theorem eX12_context_21 : vD cX12_context 21 .ireturn 1 22 := ⟨by decide +kernel, rfl⟩
theorem eX12_large_0 : vD cX12_large 0 (.aload_n 0) 1 1 := ⟨by decide +kernel, rfl⟩
theorem eX12_large_1 : vD cX12_large 1 (.getfield 243) 3 4 := ⟨by decide +kernel, rfl⟩
theorem eX12_large_4 : vD cX12_large 4 (.bipush 16) 2 6 := ⟨by decide +kernel, rfl⟩
theorem eX12_large_6 : vD cX12_large 6 (.if_icmp .ne 7) 3 9 := ⟨by decide +kernel, rfl⟩
theorem eX12_large_9 : vD cX12_large 9 (.iconst 1) 1 10 := ⟨by decide +kernel, rfl⟩
theorem eX12_large_10 : vD cX12_large 10 (.goto 4) 3 13 := ⟨by decide +kernel, rfl⟩
theorem eX12_large_13 : vD cX12_large 13 (.iconst 3) 1 14 := ⟨by decide +kernel, rfl⟩
theorem eX12_large_14 : vD cX12_large 14 .ireturn 1 15 := ⟨by decide +kernel, rfl⟩
theorem eX12_before_0 : vD cX12_before 0 (.iload_n 1) 1 1 := ⟨by decide +kernel, rfl⟩
theorem eX12_before_1 : vD cX12_before 1 (.iconst 1) 1 2 := ⟨by decide +kernel, rfl⟩
theorem eX12_before_2 : vD cX12_before 2 (.if_icmp .ge 4) 3 5 := ⟨by decide +kernel, rfl⟩
theorem eX12_before_5 : vD cX12_before 5 .return_ 1 6 := ⟨by decide +kernel, rfl⟩
theorem eX12_before_6 : vD cX12_before 6 (.aload_n 0) 1 7 := ⟨by decide +kernel, rfl⟩
theorem eX12_before_7 : vD cX12_before 7 (.iload_n 1) 1 8 := ⟨by decide +kernel, rfl⟩
theorem eX12_before_8 : vD cX12_before 8 (.invokevirtual 166) 3 11 := ⟨by decide +kernel, rfl⟩
theorem eX12_before_11 : vD cX12_before 11 (.aload_n 0) 1 12 := ⟨by decide +kernel, rfl⟩
theorem eX12_before_12 : vD cX12_before 12 (.aload_n 0) 1 13 := ⟨by decide +kernel, rfl⟩
theorem eX12_before_13 : vD cX12_before 13 (.getfield 16) 3 16 := ⟨by decide +kernel, rfl⟩
theorem eX12_before_16 : vD cX12_before 16 (.iconst 3) 1 17 := ⟨by decide +kernel, rfl⟩
theorem eX12_before_17 : vD cX12_before 17 .aaload 1 18 := ⟨by decide +kernel, rfl⟩
theorem eX12_before_18 : vD cX12_before 18 (.iconst 0) 1 19 := ⟨by decide +kernel, rfl⟩
theorem eX12_before_19 : vD cX12_before 19 (.aload_n 0) 1 20 := ⟨by decide +kernel, rfl⟩
theorem eX12_before_20 : vD cX12_before 20 (.getfield 19) 3 23 := ⟨by decide +kernel, rfl⟩
theorem eX12_before_23 : vD cX12_before 23 (.iconst 3) 1 24 := ⟨by decide +kernel, rfl⟩
theorem eX12_before_24 : vD cX12_before 24 .iaload 1 25 := ⟨by decide +kernel, rfl⟩
theorem eX12_before_25 : vD cX12_before 25 (.invokevirtual 233) 3 28 := ⟨by decide +kernel, rfl⟩
theorem eX12_before_28 : vD cX12_before 28 (.aload_n 0) 1 29 := ⟨by decide +kernel, rfl⟩
theorem eX12_before_29 : vD cX12_before 29 (.aload_n 0) 1 30 := ⟨by decide +kernel, rfl⟩
theorem eX12_before_30 : vD cX12_before 30 (.getfield 69) 3 33 := ⟨by decide +kernel, rfl⟩
theorem eX12_before_33 : vD cX12_before 33 (.iconst 0) 1 34 := ⟨by decide +kernel, rfl⟩
theorem eX12_before_34 : vD cX12_before 34 (.iload_n 1) 1 35 := ⟨by decide +kernel, rfl⟩
theorem eX12_before_35 : vD cX12_before 35 (.invokestatic 187) 3 38 := ⟨by decide +kernel, rfl⟩
theorem eX12_before_38 : vD cX12_before 38 (.invokevirtual 236) 3 41 := ⟨by decide +kernel, rfl⟩
theorem eX12_before_41 : vD cX12_before 41 .return_ 1 42 := ⟨by decide +kernel, rfl⟩

def xorL (c : Int32) (key : List Int32) (n : Nat) : List Int32 := (List.range n).map (fun i => key.getD i 0 ^^^ c)
theorem xorL_s {c : Int32} {key : List Int32} {n : Nat} : xorL c key (n + 1) = xorL c key n ++ [key.getD n 0 ^^^ c] := by simp [xorL, List.range_succ]
def ctL (i : Nat) : List Int32 := [nI (i / 16777216), nI (i / 65536), nI (i / 256), nI (i / 1)]
def dsz (k : Nat) : Nat := if k = 1 then 32 else 64
def mkB (θ : tT) (k m : Nat) (seed : List Int32) (i : Nat) : List Int32 := (dgL θ k (dsz k) (seed ++ ctL i)).take (m - i * dsz k)
def mkL (θ : tT) (k m : Nat) (seed : List Int32) (n : Nat) : List Int32 := cat (mkB θ k m seed) n
theorem mkL_len {θ : tT} {k m : Nat} {seed : List Int32} : ∀ n, n * dsz k ≤ m → (mkL θ k m seed n).length = n * dsz k
  | 0, _ => by simp [mkL, cat]
  | n + 1, h => by
    rw [Nat.succ_mul] at h
    have := mkL_len (θ := θ) (k := k) (m := m) (seed := seed) n (by omega)
    show (mkL θ k m seed n ++ mkB θ k m seed n).length = _
    rw [List.length_append, this, Nat.succ_mul]
    unfold mkB
    rw [List.length_take, dgL_len]
    omega
theorem sl_wr_take {f : Nat → Int32} {b t : Nat} {L : List Int32} (h : t ≤ L.length) : sl (wr f b L) b t = L.take t := by
  have h1 := sl_wr (f := f) (b := b) (L := L)
  have h2 : L.length = t + (L.length - t) := by omega
  rw [h2, sl_app] at h1
  have h3 := congrArg (List.take t) h1
  rw [List.take_left' sl_len] at h3
  exact h3
theorem nrw_take {L : List Int32} {t : Nat} (h : nrw L) : nrw (L.take t) := fun v hv => h v (List.mem_of_mem_take hv)
theorem nrw_dgL {θ : tT} {k n : Nat} {bs : List Int32} : nrw (dgL θ k n bs) := nrw_dgB
theorem nar_0 : vp_nar .byte 0 = 0 := by decide
section M24
variable {G : vG} {B : Nat} {l : Launch} {ad : Nat → Nat} {N : Nat} {θ : tT} {x : Nat → Int32} {σ : nS} {bs : List Int32}
set_option maxRecDepth 100000 in
set_option maxHeartbeats 4000000 in
theorem c_digestOf1   : nOk G B l ad N yX12_digestOf cX12_digestOf 1 (some .int) 0 0 0 [.int (nI 1)] σ (fun r σ' => r = some (.int (nI 32)) ∧ σ' = σ) := by
  refine vOk.of (by decide +kernel) (Nat.le_of_ble_eq_true rfl) ?_
  intro p e s m args below meth c C
  refine v_eq (lv' := [(0, .int (nI 1))]) rfl rfl rfl ?_
  refine v_iload_n C eX12_digestOf_0 rfl 0 rfl ?_
  refine v_tsw (x := nI 1) (off := 63) (tgt := 64) C eX12_digestOf_1 (by decide) (by decide) rfl (by decide) ?_
  refine v_bipush (v := nI 32) C eX12_digestOf_64 (by decide) ?_
  exact n_iret C rfl eX12_digestOf_66 ⟨rfl, rfl⟩

set_option maxRecDepth 100000 in
set_option maxHeartbeats 4000000 in
theorem c_digestOf3   : nOk G B l ad N yX12_digestOf cX12_digestOf 1 (some .int) 0 0 0 [.int (nI 3)] σ (fun r σ' => r = some (.int (nI 64)) ∧ σ' = σ) := by
  refine vOk.of (by decide +kernel) (Nat.le_of_ble_eq_true rfl) ?_
  intro p e s m args below meth c C
  refine v_eq (lv' := [(0, .int (nI 3))]) rfl rfl rfl ?_
  refine v_iload_n C eX12_digestOf_0 rfl 0 rfl ?_
  refine v_tsw (x := nI 3) (off := 69) (tgt := 70) C eX12_digestOf_1 (by decide) (by decide) rfl (by decide) ?_
  refine v_bipush (v := nI 64) C eX12_digestOf_70 (by decide) ?_
  exact n_iret C rfl eX12_digestOf_72 ⟨rfl, rfl⟩

set_option maxRecDepth 100000 in
set_option maxHeartbeats 4000000 in
theorem rs_large1 (I : nI1 ad N) (hN : ∀ k, k < 74 → k < N) (hC : RS G ad θ x σ) {nn : Nat} (h41 : x 41 = nI nn) (hn : nn = 16) : nOk G B l ad N yX12_large cX12_large 1 (some .int) 0 0 0 [.ref (ad 49)] σ (fun r σ' => r = some (.int (nI 1)) ∧ σ' = σ) := by
  refine vOk.of (by decide +kernel) (Nat.le_of_ble_eq_true rfl) ?_
  intro p e s m args below meth c C
  refine v_eq (lv' := [(0, .ref (ad 49))]) rfl rfl rfl ?_
  refine v_aload_n C eX12_large_0 rfl 0 rfl ?_
  refine n_get C I fX12_243_X12 eX12_large_1 (hN 49 (by decide)) hC.obj rfl ?_
  refine v_bipush (v := (16 : Int32)) C eX12_large_4 (by decide) ?_
  refine v_icmp_ne (tgt := 13) C eX12_large_6 (by decide) (fun h => absurd (ix_eq (a := nn) (b := 16) (hC.i41.trans h41) (rfl : (16 : Int32) = nI 16) (by omega) (by omega) (by omega)) h) (fun _ => ?_)
  refine v_iconst (v := nI 1) C eX12_large_9 (by decide) ?_
  refine v_goto (tgt := 14) C eX12_large_10 (by decide) ?_
  exact n_iret C rfl eX12_large_14 ⟨rfl, rfl⟩

set_option maxRecDepth 100000 in
set_option maxHeartbeats 4000000 in
theorem rs_large3 (I : nI1 ad N) (hN : ∀ k, k < 74 → k < N) (hC : RS G ad θ x σ) {nn : Nat} (h41 : x 41 = nI nn) (hn : nn = 24 ∨ nn = 32) : nOk G B l ad N yX12_large cX12_large 1 (some .int) 0 0 0 [.ref (ad 49)] σ (fun r σ' => r = some (.int (nI 3)) ∧ σ' = σ) := by
  refine vOk.of (by decide +kernel) (Nat.le_of_ble_eq_true rfl) ?_
  intro p e s m args below meth c C
  refine v_eq (lv' := [(0, .ref (ad 49))]) rfl rfl rfl ?_
  refine v_aload_n C eX12_large_0 rfl 0 rfl ?_
  refine n_get C I fX12_243_X12 eX12_large_1 (hN 49 (by decide)) hC.obj rfl ?_
  refine v_bipush (v := (16 : Int32)) C eX12_large_4 (by decide) ?_
  refine v_icmp_ne (tgt := 13) C eX12_large_6 (by decide) (fun _ => ?_) (fun h => absurd h (ix_ne (a := nn) (b := 16) (hC.i41.trans h41) (rfl : (16 : Int32) = nI 16) (by omega) (by omega) (by omega)))
  refine v_iconst (v := nI 3) C eX12_large_13 (by decide) ?_
  exact n_iret C rfl eX12_large_14 ⟨rfl, rfl⟩

set_option maxRecDepth 100000 in
set_option maxHeartbeats 4000000 in
theorem rs_before0 (I : nI1 ad N) (hN : ∀ k, k < 74 → k < N)  : nOk G B l ad N yX12_before cX12_before 2 none 0 0 0 [.ref (ad 49), .int ((0 : Int32))] σ (fun r σ' => r = none ∧ σ' = σ) := by
  refine vOk.of (by decide +kernel) (Nat.le_of_ble_eq_true rfl) ?_
  intro p e s m args below meth c C
  refine v_eq (lv' := [(0, .ref (ad 49)), (1, .int ((0 : Int32)))]) rfl rfl rfl ?_
  refine v_iload_n C eX12_before_0 rfl 1 rfl ?_
  refine v_iconst (v := (1 : Int32)) C eX12_before_1 (by decide) ?_
  refine v_icmp_ge (tgt := 6) C eX12_before_2 (by decide) (fun h => absurd h (by decide)) (fun _ => ?_)
  exact n_vret C rfl eX12_before_5 ⟨rfl, rfl⟩

set_option maxRecDepth 100000 in
set_option maxHeartbeats 4000000 in
theorem rs_before1 (I : nI1 ad N) (hN : ∀ k, k < 74 → k < N)  : nOk G B l ad N yX12_before cX12_before 2 none 0 0 0 [.ref (ad 49), .int ((-1 : Int32))] σ (fun r σ' => r = none ∧ σ' = σ) := by
  refine vOk.of (by decide +kernel) (Nat.le_of_ble_eq_true rfl) ?_
  intro p e s m args below meth c C
  refine v_eq (lv' := [(0, .ref (ad 49)), (1, .int ((-1 : Int32)))]) rfl rfl rfl ?_
  refine v_iload_n C eX12_before_0 rfl 1 rfl ?_
  refine v_iconst (v := (1 : Int32)) C eX12_before_1 (by decide) ?_
  refine v_icmp_ge (tgt := 6) C eX12_before_2 (by decide) (fun h => absurd h (by decide)) (fun _ => ?_)
  exact n_vret C rfl eX12_before_5 ⟨rfl, rfl⟩

set_option maxRecDepth 100000 in
set_option maxHeartbeats 4000000 in
theorem rs_context1 (I : nI1 ad N) (hN : ∀ k, k < 74 → k < N)  : nOk G B l ad N yX12_context cX12_context 2 (some .boolean) 0 0 0 [.ref (ad 49), .int ((-1 : Int32))] σ (fun r σ' => r = some (.int 1) ∧ σ' = σ) := by
  refine vOk.of (by decide +kernel) (Nat.le_of_ble_eq_true rfl) ?_
  intro p e s m args below meth c C
  refine v_eq (lv' := [(0, .ref (ad 49)), (1, .int ((-1 : Int32)))]) rfl rfl rfl ?_
  refine v_iload_n C eX12_context_0 rfl 1 rfl ?_
  refine v_if_lt (tgt := 16) C eX12_context_1 (by decide) (fun _ => ?_) (fun h => absurd (by decide) h)
  refine v_iconst (v := (1 : Int32)) C eX12_context_16 (by decide) ?_
  refine v_goto (tgt := 21) C eX12_context_17 (by decide) ?_
  exact n_zret C rfl rfl eX12_context_21 ⟨rfl, rfl⟩

set_option maxRecDepth 100000 in
set_option maxHeartbeats 4000000 in
theorem rs_context0 (I : nI1 ad N) (hN : ∀ k, k < 74 → k < N) (hC : RS G ad θ x σ) {l4 : Nat} (h4 : bt σ 2 4 = nI l4) (hl : l4 ≤ 65536) : nOk G B l ad N yX12_context cX12_context 2 (some .boolean) 0 0 0 [.ref (ad 49), .int ((0 : Int32))] σ (fun r σ' => r = some (.int (if l4 ≤ 255 then 1 else 0)) ∧ σ' = σ) := by
  refine vOk.of (by decide +kernel) (Nat.le_of_ble_eq_true rfl) ?_
  intro p e s m args below meth c C
  refine v_eq (lv' := [(0, .ref (ad 49)), (1, .int ((0 : Int32)))]) rfl rfl rfl ?_
  refine v_iload_n C eX12_context_0 rfl 1 rfl ?_
  refine v_if_lt (tgt := 16) C eX12_context_1 (by decide) (fun h => absurd h (by decide)) (fun _ => ?_)
  refine v_aload_n C eX12_context_4 rfl 0 rfl ?_
  refine n_get C I fX12_19_X12 eX12_context_5 (hN 49 (by decide)) hC.obj rfl ?_
  refine v_iconst (v := (4 : Int32)) C eX12_context_8 (by decide) ?_
  refine n_iald C I eX12_context_9 (hN 2 (by decide)) hC.len 4 (rfl : (4 : Int32) = nI 4) (by omega) (by decide) ?_
  refine v_sipush (v := (255 : Int32)) C eX12_context_10 (by decide) ?_
  by_cases c : l4 ≤ 255
  · refine v_icmp_gt (tgt := 20) C eX12_context_13 (by decide) (fun h => absurd h (ix_nlt (a := 255) (b := l4) (rfl : (255 : Int32) = nI 255) h4 (by omega) (by omega) (by omega))) (fun _ => ?_)
    refine v_iconst (v := (1 : Int32)) C eX12_context_16 (by decide) ?_
    refine v_goto (tgt := 21) C eX12_context_17 (by decide) ?_
    rw [if_pos c]
    exact n_zret C rfl rfl eX12_context_21 ⟨rfl, rfl⟩
  · refine v_icmp_gt (tgt := 20) C eX12_context_13 (by decide) (fun _ => ?_) (fun h => absurd (ix_lt (a := 255) (b := l4) (rfl : (255 : Int32) = nI 255) h4 (by omega) (by omega) (by omega)) h)
    refine v_iconst (v := (0 : Int32)) C eX12_context_20 (by decide) ?_
    rw [if_neg c]
    exact n_zret C rfl rfl eX12_context_21 ⟨rfl, rfl⟩

set_option maxRecDepth 100000 in
set_option maxHeartbeats 4000000 in
theorem rt_putSigned0 (I : nI1 ad N) (hN : ∀ k, k < 74 → k < N) {k : Nat} (hk : k = 1 ∨ k = 3 ∨ k = 12) (hT : RT G ad θ x k bs σ) {l3 l4 : Nat} (h3 : bt σ 2 3 = nI l3) (h4 : bt σ 2 4 = nI l4) (hl3 : l3 ≤ 65536) (hl4 : l4 ≤ 65536) : nOk G B l ad N yX12_putSigned cX12_putSigned 2 none 4 0 0 [.ref (ad 49), .int ((0 : Int32))] σ (fun r σ' => r = none ∧ RT G ad θ x k (bs ++ ([0, nI l4] ++ sl (bt σ 54) 0 l4 ++ sl (bt σ 53) 0 l3)) σ' ∧ (∀ j, ¬ (13 ≤ j ∧ j ≤ 17 ∨ j = 49) → σ' j = σ j)) := by
  refine vOk.of (by decide +kernel) (Nat.le_of_ble_eq_true rfl) ?_
  intro p e s m args below meth c C
  refine v_eq (lv' := [(0, .ref (ad 49)), (1, .int ((0 : Int32)))]) rfl rfl rfl ?_
  have hC := hT.1
  refine v_iload_n C eX12_putSigned_0 rfl 1 rfl ?_
  refine v_if_lt (tgt := 44) C eX12_putSigned_1 (by decide) (fun h => absurd h (by decide)) (fun _ => ?_)
  refine v_aload_n C eX12_putSigned_4 rfl 0 rfl ?_
  refine v_iload_n C eX12_putSigned_5 rfl 1 rfl ?_
  refine v_if_ne (tgt := 13) C eX12_putSigned_6 (by decide) (fun h => absurd (by decide) h) (fun _ => ?_)
  refine v_iconst (v := (0 : Int32)) C eX12_putSigned_9 (by decide) ?_
  refine v_goto (tgt := 14) C eX12_putSigned_10 (by decide) ?_
  refine n_callV (As := [.int ((0 : Int32))]) (rest := []) C I mX12_171 (rt_put I hN hT hk 0) (hN 49 (by decide)) hC.obj rfl (by decide) (by decide) ⟨by decide, by decide⟩ rfl (vi_k rfl) (Nat.le_of_ble_eq_true rfl) eX12_putSigned_14 (fun r σ1 hp => ?_)
  obtain ⟨rfl, hT1, hk1⟩ := hp
  have hC1 := hT1.1
  refine v_aload_n C eX12_putSigned_17 rfl 0 rfl ?_
  refine v_aload_n C eX12_putSigned_18 rfl 0 rfl ?_
  refine n_get C I fX12_19_X12 eX12_putSigned_19 (hN 49 (by decide)) hC1.obj rfl ?_
  refine v_iconst (v := (4 : Int32)) C eX12_putSigned_22 (by decide) ?_
  refine n_iald C I eX12_putSigned_23 (hN 2 (by decide)) hC1.len 4 (rfl : (4 : Int32) = nI 4) (by omega) (by decide) ?_
  refine v_natT (show bt σ1 2 4 = nI l4 from by rw [bt_same (hk1 2 (by decide))]; exact h4) ?_
  refine n_callV (As := [.int (nI l4)]) (rest := []) C I mX12_171 (rt_put I hN hT1 hk (nI l4)) (hN 49 (by decide)) hC1.obj rfl (by decide) (by decide) ⟨by decide, by decide⟩ rfl (vi_c (rfl : nI l4 = nI l4) rfl) (Nat.le_of_ble_eq_true rfl) eX12_putSigned_24 (fun r σ2 hp => ?_)
  obtain ⟨rfl, hT2, hk2⟩ := hp
  have hC2 := hT2.1
  refine v_aload_n C eX12_putSigned_27 rfl 0 rfl ?_
  refine v_aload_n C eX12_putSigned_28 rfl 0 rfl ?_
  refine n_get C I fX12_16_X12 eX12_putSigned_29 (hN 49 (by decide)) hC2.obj rfl ?_
  refine v_iconst (v := (4 : Int32)) C eX12_putSigned_32 (by decide) ?_
  refine n_aald (b := ad 54) C I eX12_putSigned_33 (hN 1 (by decide)) hC2.slot 4 (rfl : (4 : Int32) = nI 4) (by omega) (by decide) (eRf_at (by omega)) ?_
  refine v_iconst (v := (0 : Int32)) C eX12_putSigned_34 (by decide) ?_
  refine v_aload_n C eX12_putSigned_35 rfl 0 rfl ?_
  refine n_get C I fX12_19_X12 eX12_putSigned_36 (hN 49 (by decide)) hC2.obj rfl ?_
  refine v_iconst (v := (4 : Int32)) C eX12_putSigned_39 (by decide) ?_
  refine n_iald C I eX12_putSigned_40 (hN 2 (by decide)) hC2.len 4 (rfl : (4 : Int32) = nI 4) (by omega) (by decide) ?_
  refine v_natT (show bt σ2 2 4 = nI l4 from by rw [bt_same (hk2 2 (by decide)), bt_same (hk1 2 (by decide))]; exact h4) ?_
  refine n_callV (As := [.ref (ad 54), .int (nI 0), .int (nI l4)]) (rest := []) C I mX12_233 (rt_putA I hN hT2 hk (kb := 54) (nb := 65536) rfl (by decide) 0 l4 (by omega)) (hN 49 (by decide)) hC2.obj rfl (by decide) (by decide) ⟨by decide, by decide⟩ rfl (vi_c (rfl : nI l4 = nI l4) (vi_c (rfl : (0 : Int32) = nI 0) (vi_k rfl))) (Nat.le_of_ble_eq_true rfl) eX12_putSigned_41 (fun r σ3 hp => ?_)
  obtain ⟨rfl, hT3, hk3⟩ := hp
  have hC3 := hT3.1
  refine v_iload_n C eX12_putSigned_44 rfl 1 rfl ?_
  refine v_if_le (tgt := 126) C eX12_putSigned_45 (by decide) (fun _ => ?_) (fun h => absurd (by decide) h)
  refine v_aload_n C eX12_putSigned_126 rfl 0 rfl ?_
  refine v_aload_n C eX12_putSigned_127 rfl 0 rfl ?_
  refine n_get C I fX12_16_X12 eX12_putSigned_128 (hN 49 (by decide)) hC3.obj rfl ?_
  refine v_iconst (v := (3 : Int32)) C eX12_putSigned_131 (by decide) ?_
  refine n_aald (b := ad 53) C I eX12_putSigned_132 (hN 1 (by decide)) hC3.slot 3 (rfl : (3 : Int32) = nI 3) (by omega) (by decide) (eRf_at (by omega)) ?_
  refine v_iconst (v := (0 : Int32)) C eX12_putSigned_133 (by decide) ?_
  refine v_aload_n C eX12_putSigned_134 rfl 0 rfl ?_
  refine n_get C I fX12_19_X12 eX12_putSigned_135 (hN 49 (by decide)) hC3.obj rfl ?_
  refine v_iconst (v := (3 : Int32)) C eX12_putSigned_138 (by decide) ?_
  refine n_iald C I eX12_putSigned_139 (hN 2 (by decide)) hC3.len 3 (rfl : (3 : Int32) = nI 3) (by omega) (by decide) ?_
  refine v_natT (show bt σ3 2 3 = nI l3 from by rw [bt_same (hk3 2 (by decide)), bt_same (hk2 2 (by decide)), bt_same (hk1 2 (by decide))]; exact h3) ?_
  refine n_callV (As := [.ref (ad 53), .int (nI 0), .int (nI l3)]) (rest := []) C I mX12_233 (rt_putA I hN hT3 hk (kb := 53) (nb := 65536) rfl (by decide) 0 l3 (by omega)) (hN 49 (by decide)) hC3.obj rfl (by decide) (by decide) ⟨by decide, by decide⟩ rfl (vi_c (rfl : nI l3 = nI l3) (vi_c (rfl : (0 : Int32) = nI 0) (vi_k rfl))) (Nat.le_of_ble_eq_true rfl) eX12_putSigned_140 (fun r σ4 hp => ?_)
  obtain ⟨rfl, hT4, hk4⟩ := hp
  refine n_vret C rfl eX12_putSigned_143 ⟨rfl, ?_, fun j hj => (hk4 j hj).trans ((hk3 j hj).trans ((hk2 j hj).trans (hk1 j hj)))⟩
  rw [bt_same (hk3 53 (by decide)), bt_same (hk2 53 (by decide)), bt_same (hk1 53 (by decide)), bt_same (hk2 54 (by decide)), bt_same (hk1 54 (by decide))] at hT4
  simp only [List.append_assoc, List.cons_append, List.nil_append] at hT4 ⊢
  exact hT4

set_option maxRecDepth 100000 in
set_option maxHeartbeats 4000000 in
theorem rt_putSigned1 (I : nI1 ad N) (hN : ∀ k, k < 74 → k < N) {k : Nat} (hk : k = 1 ∨ k = 3 ∨ k = 12) (hT : RT G ad θ x k bs σ) {l3 : Nat} (h3 : bt σ 2 3 = nI l3) (hl3 : l3 ≤ 65536) : nOk G B l ad N yX12_putSigned cX12_putSigned 2 none 4 0 0 [.ref (ad 49), .int ((-1 : Int32))] σ (fun r σ' => r = none ∧ RT G ad θ x k (bs ++ sl (bt σ 53) 0 l3) σ' ∧ (∀ j, ¬ (13 ≤ j ∧ j ≤ 17 ∨ j = 49) → σ' j = σ j)) := by
  refine vOk.of (by decide +kernel) (Nat.le_of_ble_eq_true rfl) ?_
  intro p e s m args below meth c C
  refine v_eq (lv' := [(0, .ref (ad 49)), (1, .int ((-1 : Int32)))]) rfl rfl rfl ?_
  have hC := hT.1
  refine v_iload_n C eX12_putSigned_0 rfl 1 rfl ?_
  refine v_if_lt (tgt := 44) C eX12_putSigned_1 (by decide) (fun _ => ?_) (fun h => absurd (by decide) h)
  refine v_iload_n C eX12_putSigned_44 rfl 1 rfl ?_
  refine v_if_le (tgt := 126) C eX12_putSigned_45 (by decide) (fun _ => ?_) (fun h => absurd (by decide) h)
  refine v_aload_n C eX12_putSigned_126 rfl 0 rfl ?_
  refine v_aload_n C eX12_putSigned_127 rfl 0 rfl ?_
  refine n_get C I fX12_16_X12 eX12_putSigned_128 (hN 49 (by decide)) hC.obj rfl ?_
  refine v_iconst (v := (3 : Int32)) C eX12_putSigned_131 (by decide) ?_
  refine n_aald (b := ad 53) C I eX12_putSigned_132 (hN 1 (by decide)) hC.slot 3 (rfl : (3 : Int32) = nI 3) (by omega) (by decide) (eRf_at (by omega)) ?_
  refine v_iconst (v := (0 : Int32)) C eX12_putSigned_133 (by decide) ?_
  refine v_aload_n C eX12_putSigned_134 rfl 0 rfl ?_
  refine n_get C I fX12_19_X12 eX12_putSigned_135 (hN 49 (by decide)) hC.obj rfl ?_
  refine v_iconst (v := (3 : Int32)) C eX12_putSigned_138 (by decide) ?_
  refine n_iald C I eX12_putSigned_139 (hN 2 (by decide)) hC.len 3 (rfl : (3 : Int32) = nI 3) (by omega) (by decide) ?_
  refine v_natT (show bt σ 2 3 = nI l3 from h3) ?_
  refine n_callV (As := [.ref (ad 53), .int (nI 0), .int (nI l3)]) (rest := []) C I mX12_233 (rt_putA I hN hT hk (kb := 53) (nb := 65536) rfl (by decide) 0 l3 (by omega)) (hN 49 (by decide)) hC.obj rfl (by decide) (by decide) ⟨by decide, by decide⟩ rfl (vi_c (rfl : nI l3 = nI l3) (vi_c (rfl : (0 : Int32) = nI 0) (vi_k rfl))) (Nat.le_of_ble_eq_true rfl) eX12_putSigned_140 (fun r σ4 hp => ?_)
  obtain ⟨rfl, hT4, hk4⟩ := hp
  exact n_vret C rfl eX12_putSigned_143 ⟨rfl, hT4, hk4⟩

set_option maxRecDepth 100000 in
set_option maxHeartbeats 4000000 in
theorem rt_startMac1 (I : nI1 ad N) (hN : ∀ k, k < 74 → k < N) (hC : RS G ad θ x σ) {kx nx : Nat} (hkx : rLn kx = nx) (hx0 : 0 < nx) (hk22 : kx ≠ 22) (a nn : Nat) (ha : a + nn ≤ nx) (hn32 : nn ≤ 32) (hnw : nrw (sl (bt σ kx) a nn)) : nOk G B l ad N yX12_startMac cX12_startMac 7 none 5 0 0 [.ref (ad 49), .int (nI 1), .ref (ad kx), .int (nI a), .int (nI nn)] σ (fun r σ' => r = none ∧ RT G ad θ x 1 (xorL 54 (sl (bt σ kx) a nn) 64) σ' ∧ (∀ k, ¬ (13 ≤ k ∧ k ≤ 17 ∨ k = 49 ∨ k = 22) → σ' k = σ k) ∧ ∀ i, i < 128 → bt σ' 22 i = (sl (bt σ kx) a nn).getD i 0) := by
  refine vOk.of (by decide +kernel) (Nat.le_of_ble_eq_true rfl) ?_
  intro p e s m args below meth c C
  refine v_eq (lv' := [(0, .ref (ad 49)), (1, .int (nI 1)), (2, .ref (ad kx)), (3, .int (nI a)), (4, .int (nI nn))]) rfl rfl rfl ?_
  have hxh := rLn_h (k := kx) (by omega)
  have hk : 1 = 1 ∨ 1 = 3 ∨ 1 = 12 := by decide
  refine v_iload_n C eX12_startMac_0 rfl 1 rfl ?_
  refine n_callS (av := [.int (nI 1)]) (rest := []) C mX12_190 (c_blockOf1) rfl (by decide) (by decide) ⟨by decide, by decide⟩ rfl (vi_c (rfl : nI 1 = nI 1) rfl) (Nat.le_of_ble_eq_true rfl) eX12_startMac_1 (fun r ρ hp => ?_)
  obtain ⟨rfl, hρ⟩ := hp
  rw [hρ]
  refine v_istore (lv' := [(0, .ref (ad 49)), (1, .int (nI 1)), (2, .ref (ad kx)), (3, .int (nI a)), (4, .int (nI nn)), (5, .int ((64 : Int32)))]) C eX12_startMac_4 (by decide) [1, 2, 3, 4, 5, 0] rfl ?_
  refine v_iconst (v := nI 0) C eX12_startMac_6 (by decide) ?_
  refine v_istore (lv' := [(0, .ref (ad 49)), (1, .int (nI 1)), (2, .ref (ad kx)), (3, .int (nI a)), (4, .int (nI nn)), (5, .int ((64 : Int32))), (6, .int (nI 0))]) C eX12_startMac_7 (by decide) [1, 2, 3, 4, 5, 6, 0] rfl ?_
  refine v_forP (fun j τ => RS G ad θ x τ ∧ (∀ k, ¬ (k = 22) → τ k = σ k) ∧ ∀ i, i < j → bt τ 22 i = 0) (fun j => [(0, .ref (ad 49)), (1, .int (nI 1)), (2, .ref (ad kx)), (3, .int (nI a)), (4, .int (nI nn)), (5, .int ((64 : Int32))), (6, .int (nI j))]) 128 ?_ ?_ _ ⟨hC, fun k _ => rfl, fun i hi => absurd hi (Nat.not_lt_zero i)⟩
  · intro τ hI
    obtain ⟨hC1, hk1, hv1⟩ := hI
    refine v_iload C eX12_startMac_9 6 rfl ?_
    refine v_sipush (v := (128 : Int32)) C eX12_startMac_11 (by decide) ?_
    refine v_icmp_ge (tgt := 31) C eX12_startMac_14 (by decide) (fun _ => ?_) (fun h => absurd (ix_le (a := 128) (b := 128) (rfl : (128 : Int32) = nI 128) (rfl : nI 128 = nI 128) (by omega) (by omega) (by omega)) h)
    refine v_iload C eX12_startMac_31 4 rfl ?_
    refine v_iload C eX12_startMac_33 5 rfl ?_
    refine v_icmp_le (tgt := 67) C eX12_startMac_35 (by decide) (fun _ => ?_) (fun h => absurd (ix_le (a := nn) (b := 64) (rfl : nI nn = nI nn) (rfl : (64 : Int32) = nI 64) (by omega) (by omega) (by omega)) h)
    refine v_aload_n C eX12_startMac_67 rfl 2 rfl ?_
    refine v_iload_n C eX12_startMac_68 rfl 3 rfl ?_
    refine v_aload_n C eX12_startMac_69 rfl 0 rfl ?_
    refine n_get C I fX12_63_X12 eX12_startMac_70 (hN 49 (by decide)) hC1.obj rfl ?_
    refine v_iconst (v := (0 : Int32)) C eX12_startMac_73 (by decide) ?_
    refine v_iload C eX12_startMac_74 4 rfl ?_
    have hbx : bt τ kx = bt σ kx := bt_same (hk1 kx hk22)
    refine n_callS (av := [.ref (ad kx), .int (nI a), .ref (ad 22), .int (nI 0), .int (nI nn)]) (rest := []) C mX12_239 (rs_mv I hN hC1 (ko := 22) (no := 128) hkx hx0 rfl (by decide) hk22 a 0 nn ha (by omega) (by rw [hbx]; exact hnw)) rfl (by decide) (by decide) ⟨by decide, by decide⟩ rfl (vi_c (rfl : nI nn = nI nn) (vi_c (rfl : (0 : Int32) = nI 0) (vi_k (vi_c (rfl : nI a = nI a) (vi_k rfl))))) (Nat.le_of_ble_eq_true rfl) eX12_startMac_76 (fun r σ2 hp => ?_)
    obtain ⟨rfl, hC2, hk2, hv2⟩ := hp
    have hkey : ∀ i, i < 128 → bt σ2 22 i = (sl (bt σ kx) a nn).getD i 0 := by
      intro i hi; rw [hv2, hbx]; by_cases q : i < nn
      · rw [wr_in (Nat.zero_le i) (by rw [sl_len]; omega), Nat.sub_zero]
      · rw [wr_out (by rw [sl_len]; omega), hv1 i hi]; unfold List.getD; rw [List.getElem?_eq_none (by rw [sl_len]; omega)]; rfl
    refine v_aload_n C eX12_startMac_79 rfl 0 rfl ?_
    refine v_iload_n C eX12_startMac_80 rfl 1 rfl ?_
    refine n_callV (As := [.int (nI 1)]) (rest := []) C I mX12_166 (rt_begin I hN hC2 hk) (hN 49 (by decide)) hC2.obj rfl (by decide) (by decide) ⟨by decide, by decide⟩ rfl (vi_c (rfl : nI 1 = nI 1) rfl) (Nat.le_of_ble_eq_true rfl) eX12_startMac_81 (fun r σ3 hp => ?_)
    obtain ⟨rfl, hT3, hk3⟩ := hp
    have hC3 := hT3.1
    refine v_iconst (v := nI 0) C eX12_startMac_84 (by decide) ?_
    refine v_istore (lv' := [(0, .ref (ad 49)), (1, .int (nI 1)), (2, .ref (ad kx)), (3, .int (nI a)), (4, .int (nI nn)), (5, .int ((64 : Int32))), (6, .int (nI 0))]) C eX12_startMac_85 (by decide) [1, 2, 3, 4, 5, 6, 0] rfl ?_
    refine v_forP (fun j ρ => RT G ad θ x 1 (xorL 54 (sl (bt σ kx) a nn) j) ρ ∧ (∀ k, ¬ (13 ≤ k ∧ k ≤ 17 ∨ k = 49) → ρ k = σ3 k)) (fun j => [(0, .ref (ad 49)), (1, .int (nI 1)), (2, .ref (ad kx)), (3, .int (nI a)), (4, .int (nI nn)), (5, .int ((64 : Int32))), (6, .int (nI j))]) 64 ?_ ?_ _ ⟨hT3, fun k _ => rfl⟩
    · intro ρ hI
      obtain ⟨hT4, hk4⟩ := hI
      have hC4 := hT4.1
      refine v_iload C eX12_startMac_87 6 rfl ?_
      refine v_iload C eX12_startMac_89 5 rfl ?_
      refine v_icmp_ge (tgt := 114) C eX12_startMac_91 (by decide) (fun _ => ?_) (fun h => absurd (ix_le (a := 64) (b := 64) (rfl : (64 : Int32) = nI 64) (rfl : nI 64 = nI 64) (by omega) (by omega) (by omega)) h)
      exact n_vret C rfl eX12_startMac_114 ⟨rfl, hT4, fun k hk => (hk4 k (by omega)).trans ((hk3 k (by omega)).trans ((hk2 k (by omega)).trans (hk1 k (by omega)))), fun i hi => by rw [bt_same (hk4 22 (by decide)), bt_same (hk3 22 (by decide))]; exact hkey i hi⟩
    · intro j hj ih ρ hI
      obtain ⟨hT4, hk4⟩ := hI
      have hC4 := hT4.1
      refine v_iload C eX12_startMac_87 6 rfl ?_
      refine v_iload C eX12_startMac_89 5 rfl ?_
      refine v_icmp_ge (tgt := 114) C eX12_startMac_91 (by decide) (fun h => absurd h (ix_nle (a := 64) (b := j) (rfl : (64 : Int32) = nI 64) (rfl : nI j = nI j) (by omega) (by omega) (by omega))) (fun _ => ?_)
      refine v_aload_n C eX12_startMac_94 rfl 0 rfl ?_
      refine v_aload_n C eX12_startMac_95 rfl 0 rfl ?_
      refine n_get C I fX12_63_X12 eX12_startMac_96 (hN 49 (by decide)) hC4.obj rfl ?_
      refine v_iload C eX12_startMac_99 6 rfl ?_
      refine n_bald C I eX12_startMac_101 (hN 22 (by decide)) (hC4.b 22 128 rfl (by decide)) j (rfl : nI j = nI j) (by omega) (by decide) ?_
      refine v_bipush (v := (54 : Int32)) C eX12_startMac_102 (by decide) ?_
      refine v_ixor C eX12_startMac_104 ?_
      refine n_callV (As := [.int (((bt ρ 22) j) ^^^ ((54 : Int32)))]) (rest := []) C I mX12_171 (rt_put I hN hT4 hk _) (hN 49 (by decide)) hC4.obj rfl (by decide) (by decide) ⟨by decide, by decide⟩ rfl (vi_k rfl) (Nat.le_of_ble_eq_true rfl) eX12_startMac_105 (fun r σ5 hp => ?_)
      obtain ⟨rfl, hT5, hk5⟩ := hp
      refine v_iinc (lv' := [(0, .ref (ad 49)), (1, .int (nI 1)), (2, .ref (ad kx)), (3, .int (nI a)), (4, .int (nI nn)), (5, .int ((64 : Int32))), (6, .int (nI (j + 1)))]) C eX12_startMac_108 6 rfl (ix_inc _) (by decide) [1, 2, 3, 4, 5, 6, 0] rfl ?_
      refine v_goto (tgt := 87) C eX12_startMac_111 (by decide) ?_
      refine ih σ5 ⟨?_, fun k hk => (hk5 k hk).trans (hk4 k hk)⟩
      rw [xorL_s, ← hkey j (by omega), ← bt_same (hk3 22 (by decide)), ← bt_same (hk4 22 (by decide))]
      exact hT5
  · intro j hj ih τ hI
    obtain ⟨hC1, hk1, hv1⟩ := hI
    refine v_iload C eX12_startMac_9 6 rfl ?_
    refine v_sipush (v := (128 : Int32)) C eX12_startMac_11 (by decide) ?_
    refine v_icmp_ge (tgt := 31) C eX12_startMac_14 (by decide) (fun h => absurd h (ix_nle (a := 128) (b := j) (rfl : (128 : Int32) = nI 128) (rfl : nI j = nI j) (by omega) (by omega) (by omega))) (fun _ => ?_)
    refine v_aload_n C eX12_startMac_17 rfl 0 rfl ?_
    refine n_get C I fX12_63_X12 eX12_startMac_18 (hN 49 (by decide)) hC1.obj rfl ?_
    refine v_iload C eX12_startMac_21 6 rfl ?_
    refine v_iconst (v := (0 : Int32)) C eX12_startMac_23 (by decide) ?_
    refine n_bast C I eX12_startMac_24 (hN 22 (by decide)) (hC1.b 22 128 rfl (by decide)) j (rfl : nI j = nI j) (by omega) (by decide) ?_
    have h1 := (n_ne hk22 (e := eB G 128 (upd (bt τ 22) j (vp_nar .byte ((0 : Int32)))))).trans (hC1.b kx nx hkx hx0)
    refine v_iinc (lv' := [(0, .ref (ad 49)), (1, .int (nI 1)), (2, .ref (ad kx)), (3, .int (nI a)), (4, .int (nI nn)), (5, .int ((64 : Int32))), (6, .int (nI (j + 1)))]) C eX12_startMac_25 6 rfl (ix_inc _) (by decide) [1, 2, 3, 4, 5, 6, 0] rfl ?_
    refine v_goto (tgt := 9) C eX12_startMac_28 (by decide) ?_
    refine ih _ ⟨hC1.up rfl (by decide) _, fun k hk => (by simp [va_up, hk]; exact hk1 k hk), fun i hi => ?_⟩
    show upd (bt τ 22) j (vp_nar .byte 0) i = 0
    by_cases e : i = j
    · subst e; rw [pk_us]; exact nar_0
    · rw [pk_un e]; exact hv1 i (by omega)

set_option maxRecDepth 100000 in
set_option maxHeartbeats 4000000 in
theorem rt_startMac3 (I : nI1 ad N) (hN : ∀ k, k < 74 → k < N) (hC : RS G ad θ x σ) {kx nx : Nat} (hkx : rLn kx = nx) (hx0 : 0 < nx) (hk22 : kx ≠ 22) (a nn : Nat) (ha : a + nn ≤ nx) (hn32 : nn ≤ 32) (hnw : nrw (sl (bt σ kx) a nn)) : nOk G B l ad N yX12_startMac cX12_startMac 7 none 5 0 0 [.ref (ad 49), .int (nI 3), .ref (ad kx), .int (nI a), .int (nI nn)] σ (fun r σ' => r = none ∧ RT G ad θ x 3 (xorL 54 (sl (bt σ kx) a nn) 128) σ' ∧ (∀ k, ¬ (13 ≤ k ∧ k ≤ 17 ∨ k = 49 ∨ k = 22) → σ' k = σ k) ∧ ∀ i, i < 128 → bt σ' 22 i = (sl (bt σ kx) a nn).getD i 0) := by
  refine vOk.of (by decide +kernel) (Nat.le_of_ble_eq_true rfl) ?_
  intro p e s m args below meth c C
  refine v_eq (lv' := [(0, .ref (ad 49)), (1, .int (nI 3)), (2, .ref (ad kx)), (3, .int (nI a)), (4, .int (nI nn))]) rfl rfl rfl ?_
  have hxh := rLn_h (k := kx) (by omega)
  have hk : 3 = 1 ∨ 3 = 3 ∨ 3 = 12 := by decide
  refine v_iload_n C eX12_startMac_0 rfl 1 rfl ?_
  refine n_callS (av := [.int (nI 3)]) (rest := []) C mX12_190 (c_blockOf3) rfl (by decide) (by decide) ⟨by decide, by decide⟩ rfl (vi_c (rfl : nI 3 = nI 3) rfl) (Nat.le_of_ble_eq_true rfl) eX12_startMac_1 (fun r ρ hp => ?_)
  obtain ⟨rfl, hρ⟩ := hp
  rw [hρ]
  refine v_istore (lv' := [(0, .ref (ad 49)), (1, .int (nI 3)), (2, .ref (ad kx)), (3, .int (nI a)), (4, .int (nI nn)), (5, .int ((128 : Int32)))]) C eX12_startMac_4 (by decide) [1, 2, 3, 4, 5, 0] rfl ?_
  refine v_iconst (v := nI 0) C eX12_startMac_6 (by decide) ?_
  refine v_istore (lv' := [(0, .ref (ad 49)), (1, .int (nI 3)), (2, .ref (ad kx)), (3, .int (nI a)), (4, .int (nI nn)), (5, .int ((128 : Int32))), (6, .int (nI 0))]) C eX12_startMac_7 (by decide) [1, 2, 3, 4, 5, 6, 0] rfl ?_
  refine v_forP (fun j τ => RS G ad θ x τ ∧ (∀ k, ¬ (k = 22) → τ k = σ k) ∧ ∀ i, i < j → bt τ 22 i = 0) (fun j => [(0, .ref (ad 49)), (1, .int (nI 3)), (2, .ref (ad kx)), (3, .int (nI a)), (4, .int (nI nn)), (5, .int ((128 : Int32))), (6, .int (nI j))]) 128 ?_ ?_ _ ⟨hC, fun k _ => rfl, fun i hi => absurd hi (Nat.not_lt_zero i)⟩
  · intro τ hI
    obtain ⟨hC1, hk1, hv1⟩ := hI
    refine v_iload C eX12_startMac_9 6 rfl ?_
    refine v_sipush (v := (128 : Int32)) C eX12_startMac_11 (by decide) ?_
    refine v_icmp_ge (tgt := 31) C eX12_startMac_14 (by decide) (fun _ => ?_) (fun h => absurd (ix_le (a := 128) (b := 128) (rfl : (128 : Int32) = nI 128) (rfl : nI 128 = nI 128) (by omega) (by omega) (by omega)) h)
    refine v_iload C eX12_startMac_31 4 rfl ?_
    refine v_iload C eX12_startMac_33 5 rfl ?_
    refine v_icmp_le (tgt := 67) C eX12_startMac_35 (by decide) (fun _ => ?_) (fun h => absurd (ix_le (a := nn) (b := 128) (rfl : nI nn = nI nn) (rfl : (128 : Int32) = nI 128) (by omega) (by omega) (by omega)) h)
    refine v_aload_n C eX12_startMac_67 rfl 2 rfl ?_
    refine v_iload_n C eX12_startMac_68 rfl 3 rfl ?_
    refine v_aload_n C eX12_startMac_69 rfl 0 rfl ?_
    refine n_get C I fX12_63_X12 eX12_startMac_70 (hN 49 (by decide)) hC1.obj rfl ?_
    refine v_iconst (v := (0 : Int32)) C eX12_startMac_73 (by decide) ?_
    refine v_iload C eX12_startMac_74 4 rfl ?_
    have hbx : bt τ kx = bt σ kx := bt_same (hk1 kx hk22)
    refine n_callS (av := [.ref (ad kx), .int (nI a), .ref (ad 22), .int (nI 0), .int (nI nn)]) (rest := []) C mX12_239 (rs_mv I hN hC1 (ko := 22) (no := 128) hkx hx0 rfl (by decide) hk22 a 0 nn ha (by omega) (by rw [hbx]; exact hnw)) rfl (by decide) (by decide) ⟨by decide, by decide⟩ rfl (vi_c (rfl : nI nn = nI nn) (vi_c (rfl : (0 : Int32) = nI 0) (vi_k (vi_c (rfl : nI a = nI a) (vi_k rfl))))) (Nat.le_of_ble_eq_true rfl) eX12_startMac_76 (fun r σ2 hp => ?_)
    obtain ⟨rfl, hC2, hk2, hv2⟩ := hp
    have hkey : ∀ i, i < 128 → bt σ2 22 i = (sl (bt σ kx) a nn).getD i 0 := by
      intro i hi; rw [hv2, hbx]; by_cases q : i < nn
      · rw [wr_in (Nat.zero_le i) (by rw [sl_len]; omega), Nat.sub_zero]
      · rw [wr_out (by rw [sl_len]; omega), hv1 i hi]; unfold List.getD; rw [List.getElem?_eq_none (by rw [sl_len]; omega)]; rfl
    refine v_aload_n C eX12_startMac_79 rfl 0 rfl ?_
    refine v_iload_n C eX12_startMac_80 rfl 1 rfl ?_
    refine n_callV (As := [.int (nI 3)]) (rest := []) C I mX12_166 (rt_begin I hN hC2 hk) (hN 49 (by decide)) hC2.obj rfl (by decide) (by decide) ⟨by decide, by decide⟩ rfl (vi_c (rfl : nI 3 = nI 3) rfl) (Nat.le_of_ble_eq_true rfl) eX12_startMac_81 (fun r σ3 hp => ?_)
    obtain ⟨rfl, hT3, hk3⟩ := hp
    have hC3 := hT3.1
    refine v_iconst (v := nI 0) C eX12_startMac_84 (by decide) ?_
    refine v_istore (lv' := [(0, .ref (ad 49)), (1, .int (nI 3)), (2, .ref (ad kx)), (3, .int (nI a)), (4, .int (nI nn)), (5, .int ((128 : Int32))), (6, .int (nI 0))]) C eX12_startMac_85 (by decide) [1, 2, 3, 4, 5, 6, 0] rfl ?_
    refine v_forP (fun j ρ => RT G ad θ x 3 (xorL 54 (sl (bt σ kx) a nn) j) ρ ∧ (∀ k, ¬ (13 ≤ k ∧ k ≤ 17 ∨ k = 49) → ρ k = σ3 k)) (fun j => [(0, .ref (ad 49)), (1, .int (nI 3)), (2, .ref (ad kx)), (3, .int (nI a)), (4, .int (nI nn)), (5, .int ((128 : Int32))), (6, .int (nI j))]) 128 ?_ ?_ _ ⟨hT3, fun k _ => rfl⟩
    · intro ρ hI
      obtain ⟨hT4, hk4⟩ := hI
      have hC4 := hT4.1
      refine v_iload C eX12_startMac_87 6 rfl ?_
      refine v_iload C eX12_startMac_89 5 rfl ?_
      refine v_icmp_ge (tgt := 114) C eX12_startMac_91 (by decide) (fun _ => ?_) (fun h => absurd (ix_le (a := 128) (b := 128) (rfl : (128 : Int32) = nI 128) (rfl : nI 128 = nI 128) (by omega) (by omega) (by omega)) h)
      exact n_vret C rfl eX12_startMac_114 ⟨rfl, hT4, fun k hk => (hk4 k (by omega)).trans ((hk3 k (by omega)).trans ((hk2 k (by omega)).trans (hk1 k (by omega)))), fun i hi => by rw [bt_same (hk4 22 (by decide)), bt_same (hk3 22 (by decide))]; exact hkey i hi⟩
    · intro j hj ih ρ hI
      obtain ⟨hT4, hk4⟩ := hI
      have hC4 := hT4.1
      refine v_iload C eX12_startMac_87 6 rfl ?_
      refine v_iload C eX12_startMac_89 5 rfl ?_
      refine v_icmp_ge (tgt := 114) C eX12_startMac_91 (by decide) (fun h => absurd h (ix_nle (a := 128) (b := j) (rfl : (128 : Int32) = nI 128) (rfl : nI j = nI j) (by omega) (by omega) (by omega))) (fun _ => ?_)
      refine v_aload_n C eX12_startMac_94 rfl 0 rfl ?_
      refine v_aload_n C eX12_startMac_95 rfl 0 rfl ?_
      refine n_get C I fX12_63_X12 eX12_startMac_96 (hN 49 (by decide)) hC4.obj rfl ?_
      refine v_iload C eX12_startMac_99 6 rfl ?_
      refine n_bald C I eX12_startMac_101 (hN 22 (by decide)) (hC4.b 22 128 rfl (by decide)) j (rfl : nI j = nI j) (by omega) (by decide) ?_
      refine v_bipush (v := (54 : Int32)) C eX12_startMac_102 (by decide) ?_
      refine v_ixor C eX12_startMac_104 ?_
      refine n_callV (As := [.int (((bt ρ 22) j) ^^^ ((54 : Int32)))]) (rest := []) C I mX12_171 (rt_put I hN hT4 hk _) (hN 49 (by decide)) hC4.obj rfl (by decide) (by decide) ⟨by decide, by decide⟩ rfl (vi_k rfl) (Nat.le_of_ble_eq_true rfl) eX12_startMac_105 (fun r σ5 hp => ?_)
      obtain ⟨rfl, hT5, hk5⟩ := hp
      refine v_iinc (lv' := [(0, .ref (ad 49)), (1, .int (nI 3)), (2, .ref (ad kx)), (3, .int (nI a)), (4, .int (nI nn)), (5, .int ((128 : Int32))), (6, .int (nI (j + 1)))]) C eX12_startMac_108 6 rfl (ix_inc _) (by decide) [1, 2, 3, 4, 5, 6, 0] rfl ?_
      refine v_goto (tgt := 87) C eX12_startMac_111 (by decide) ?_
      refine ih σ5 ⟨?_, fun k hk => (hk5 k hk).trans (hk4 k hk)⟩
      rw [xorL_s, ← hkey j (by omega), ← bt_same (hk3 22 (by decide)), ← bt_same (hk4 22 (by decide))]
      exact hT5
  · intro j hj ih τ hI
    obtain ⟨hC1, hk1, hv1⟩ := hI
    refine v_iload C eX12_startMac_9 6 rfl ?_
    refine v_sipush (v := (128 : Int32)) C eX12_startMac_11 (by decide) ?_
    refine v_icmp_ge (tgt := 31) C eX12_startMac_14 (by decide) (fun h => absurd h (ix_nle (a := 128) (b := j) (rfl : (128 : Int32) = nI 128) (rfl : nI j = nI j) (by omega) (by omega) (by omega))) (fun _ => ?_)
    refine v_aload_n C eX12_startMac_17 rfl 0 rfl ?_
    refine n_get C I fX12_63_X12 eX12_startMac_18 (hN 49 (by decide)) hC1.obj rfl ?_
    refine v_iload C eX12_startMac_21 6 rfl ?_
    refine v_iconst (v := (0 : Int32)) C eX12_startMac_23 (by decide) ?_
    refine n_bast C I eX12_startMac_24 (hN 22 (by decide)) (hC1.b 22 128 rfl (by decide)) j (rfl : nI j = nI j) (by omega) (by decide) ?_
    have h1 := (n_ne hk22 (e := eB G 128 (upd (bt τ 22) j (vp_nar .byte ((0 : Int32)))))).trans (hC1.b kx nx hkx hx0)
    refine v_iinc (lv' := [(0, .ref (ad 49)), (1, .int (nI 3)), (2, .ref (ad kx)), (3, .int (nI a)), (4, .int (nI nn)), (5, .int ((128 : Int32))), (6, .int (nI (j + 1)))]) C eX12_startMac_25 6 rfl (ix_inc _) (by decide) [1, 2, 3, 4, 5, 6, 0] rfl ?_
    refine v_goto (tgt := 9) C eX12_startMac_28 (by decide) ?_
    refine ih _ ⟨hC1.up rfl (by decide) _, fun k hk => (by simp [va_up, hk]; exact hk1 k hk), fun i hi => ?_⟩
    show upd (bt τ 22) j (vp_nar .byte 0) i = 0
    by_cases e : i = j
    · subst e; rw [pk_us]; exact nar_0
    · rw [pk_un e]; exact hv1 i (by omega)

set_option maxRecDepth 100000 in
set_option maxHeartbeats 4000000 in
theorem rt_endMac1 (I : nI1 ad N) (hN : ∀ k, k < 74 → k < N) (hT : RT G ad θ x 1 bs σ) {key : List Int32} (hkey : ∀ i, i < 128 → bt σ 22 i = key.getD i 0) {ko no : Nat} (hko : rLn ko = no) (ho0 : 0 < no) (hf : ko ≠ 22 ∧ ko ≠ 23) (a nn : Nat) (ha : a + nn ≤ no) (hn32 : nn ≤ 32) : nOk G B l ad N yX12_endMac cX12_endMac 7 none 5 0 0 [.ref (ad 49), .int (nI 1), .ref (ad ko), .int (nI a), .int (nI nn)] σ (fun r σ' => r = none ∧ RS G ad θ x σ' ∧ (∀ k, ¬ (13 ≤ k ∧ k ≤ 17 ∨ k = 49 ∨ k = 23 ∨ k = ko) → σ' k = σ k) ∧ bt σ' ko = wr (bt σ ko) a (dgL θ 1 nn (xorL 92 key 64 ++ dgL θ 1 32 bs))) := by
  refine vOk.of (by decide +kernel) (Nat.le_of_ble_eq_true rfl) ?_
  intro p e s m args below meth c C
  refine v_eq (lv' := [(0, .ref (ad 49)), (1, .int (nI 1)), (2, .ref (ad ko)), (3, .int (nI a)), (4, .int (nI nn))]) rfl rfl rfl ?_
  have hC := hT.1
  have hk : 1 = 1 ∨ 1 = 3 ∨ 1 = 12 := by decide
  have hoh := rLn_h (k := ko) (by omega)
  refine v_iload_n C eX12_endMac_0 rfl 1 rfl ?_
  refine n_callS (av := [.int (nI 1)]) (rest := []) C mX12_190 (c_blockOf1) rfl (by decide) (by decide) ⟨by decide, by decide⟩ rfl (vi_c (rfl : nI 1 = nI 1) rfl) (Nat.le_of_ble_eq_true rfl) eX12_endMac_1 (fun r ρ hp => ?_)
  obtain ⟨rfl, hρ⟩ := hp
  rw [hρ]
  clear hρ ρ
  refine v_istore (lv' := [(0, .ref (ad 49)), (1, .int (nI 1)), (2, .ref (ad ko)), (3, .int (nI a)), (4, .int (nI nn)), (5, .int ((64 : Int32)))]) C eX12_endMac_4 (by decide) [1, 2, 3, 4, 5, 0] rfl ?_
  refine v_aload_n C eX12_endMac_6 rfl 0 rfl ?_
  refine v_aload_n C eX12_endMac_7 rfl 0 rfl ?_
  refine n_get C I fX12_66_X12 eX12_endMac_8 (hN 49 (by decide)) hC.obj rfl ?_
  refine v_iconst (v := (0 : Int32)) C eX12_endMac_11 (by decide) ?_
  refine v_iload_n C eX12_endMac_12 rfl 1 rfl ?_
  refine n_callS (av := [.int (nI 1)]) (rest := [.int ((0 : Int32)), .ref (ad 23), .ref (ad 49)]) C mX12_187 (c_digestOf1) rfl (by decide) (by decide) ⟨by decide, by decide⟩ rfl (vi_c (rfl : nI 1 = nI 1) rfl) (Nat.le_of_ble_eq_true rfl) eX12_endMac_13 (fun r ρ hp => ?_)
  obtain ⟨rfl, hρ⟩ := hp
  rw [hρ]
  clear hρ ρ
  refine n_callV (As := [.ref (ad 23), .int (nI 0), .int (nI 32)]) (rest := []) C I mX12_236 (rt_give I hN hT hk (ko := 23) (no := 64) rfl (by decide) 0 32 (by decide) (by decide)) (hN 49 (by decide)) hC.obj rfl (by decide) (by decide) ⟨by decide, by decide⟩ rfl (vi_c (rfl : nI 32 = nI 32) (vi_c (rfl : (0 : Int32) = nI 0) (vi_k rfl))) (Nat.le_of_ble_eq_true rfl) eX12_endMac_16 (fun r σ1 hp => ?_)
  obtain ⟨rfl, hC1, hk1, hv1⟩ := hp
  refine v_aload_n C eX12_endMac_19 rfl 0 rfl ?_
  refine v_iload_n C eX12_endMac_20 rfl 1 rfl ?_
  refine n_callV (As := [.int (nI 1)]) (rest := []) C I mX12_166 (rt_begin I hN hC1 hk) (hN 49 (by decide)) hC1.obj rfl (by decide) (by decide) ⟨by decide, by decide⟩ rfl (vi_c (rfl : nI 1 = nI 1) rfl) (Nat.le_of_ble_eq_true rfl) eX12_endMac_21 (fun r σ2 hp => ?_)
  obtain ⟨rfl, hT2, hk2⟩ := hp
  have hC2 := hT2.1
  refine v_iconst (v := nI 0) C eX12_endMac_24 (by decide) ?_
  refine v_istore (lv' := [(0, .ref (ad 49)), (1, .int (nI 1)), (2, .ref (ad ko)), (3, .int (nI a)), (4, .int (nI nn)), (5, .int ((64 : Int32))), (6, .int (nI 0))]) C eX12_endMac_25 (by decide) [1, 2, 3, 4, 5, 6, 0] rfl ?_
  refine v_forP (fun j ρ => RT G ad θ x 1 (xorL 92 key j) ρ ∧ (∀ k, ¬ (13 ≤ k ∧ k ≤ 17 ∨ k = 49) → ρ k = σ2 k)) (fun j => [(0, .ref (ad 49)), (1, .int (nI 1)), (2, .ref (ad ko)), (3, .int (nI a)), (4, .int (nI nn)), (5, .int ((64 : Int32))), (6, .int (nI j))]) 64 ?_ ?_ _ ⟨hT2, fun k _ => rfl⟩
  · intro ρ hI
    obtain ⟨hT4, hk4⟩ := hI
    have hC4 := hT4.1
    refine v_iload C eX12_endMac_27 6 rfl ?_
    refine v_iload C eX12_endMac_29 5 rfl ?_
    refine v_icmp_ge (tgt := 54) C eX12_endMac_31 (by decide) (fun _ => ?_) (fun h => absurd (ix_le (a := 64) (b := 64) (rfl : (64 : Int32) = nI 64) (rfl : nI 64 = nI 64) (by omega) (by omega) (by omega)) h)
    refine v_aload_n C eX12_endMac_54 rfl 0 rfl ?_
    refine v_aload_n C eX12_endMac_55 rfl 0 rfl ?_
    refine n_get C I fX12_66_X12 eX12_endMac_56 (hN 49 (by decide)) hC4.obj rfl ?_
    refine v_iconst (v := (0 : Int32)) C eX12_endMac_59 (by decide) ?_
    refine v_iload_n C eX12_endMac_60 rfl 1 rfl ?_
    refine n_callS (av := [.int (nI 1)]) (rest := [.int ((0 : Int32)), .ref (ad 23), .ref (ad 49)]) C mX12_187 (c_digestOf1) rfl (by decide) (by decide) ⟨by decide, by decide⟩ rfl (vi_c (rfl : nI 1 = nI 1) rfl) (Nat.le_of_ble_eq_true rfl) eX12_endMac_61 (fun r ρ1 hp => ?_)
    obtain ⟨rfl, hρ⟩ := hp
    rw [hρ]
    refine n_callV (As := [.ref (ad 23), .int (nI 0), .int (nI 32)]) (rest := []) C I mX12_233 (rt_putA I hN hT4 hk (kb := 23) (nb := 64) rfl (by decide) 0 32 (by decide)) (hN 49 (by decide)) hC4.obj rfl (by decide) (by decide) ⟨by decide, by decide⟩ rfl (vi_c (rfl : nI 32 = nI 32) (vi_c (rfl : (0 : Int32) = nI 0) (vi_k rfl))) (Nat.le_of_ble_eq_true rfl) eX12_endMac_64 (fun r σ5 hp => ?_)
    obtain ⟨rfl, hT5, hk5⟩ := hp
    have hC5 := hT5.1
    refine v_aload_n C eX12_endMac_67 rfl 0 rfl ?_
    refine v_aload_n C eX12_endMac_68 rfl 2 rfl ?_
    refine v_iload_n C eX12_endMac_69 rfl 3 rfl ?_
    refine v_iload C eX12_endMac_70 4 rfl ?_
    refine n_callV (As := [.ref (ad ko), .int (nI a), .int (nI nn)]) (rest := []) C I mX12_236 (rt_give I hN hT5 hk hko ho0 a nn (by show nn ≤ 32; exact hn32) ha) (hN 49 (by decide)) hC5.obj rfl (by decide) (by decide) ⟨by decide, by decide⟩ rfl (vi_c (rfl : nI nn = nI nn) (vi_c (rfl : nI a = nI a) (vi_k rfl))) (Nat.le_of_ble_eq_true rfl) eX12_endMac_72 (fun r σ6 hp => ?_)
    obtain ⟨rfl, hC6, hk6, hv6⟩ := hp
    refine n_vret C rfl eX12_endMac_75 ⟨rfl, hC6, fun k hk => (hk6 k (by omega)).trans ((hk5 k (by omega)).trans ((hk4 k (by omega)).trans ((hk2 k (by omega)).trans (hk1 k (by omega))))), ?_⟩
    rw [hv6, bt_same (hk5 ko hoh), bt_same (hk4 ko hoh), bt_same (hk2 ko hoh), bt_same (hk1 ko (by omega)), bt_same (hk4 23 (by decide)), bt_same (hk2 23 (by decide)), hv1, sl_wr' dgL_len]
  · intro j hj ih ρ hI
    obtain ⟨hT4, hk4⟩ := hI
    have hC4 := hT4.1
    refine v_iload C eX12_endMac_27 6 rfl ?_
    refine v_iload C eX12_endMac_29 5 rfl ?_
    refine v_icmp_ge (tgt := 54) C eX12_endMac_31 (by decide) (fun h => absurd h (ix_nle (a := 64) (b := j) (rfl : (64 : Int32) = nI 64) (rfl : nI j = nI j) (by omega) (by omega) (by omega))) (fun _ => ?_)
    refine v_aload_n C eX12_endMac_34 rfl 0 rfl ?_
    refine v_aload_n C eX12_endMac_35 rfl 0 rfl ?_
    refine n_get C I fX12_63_X12 eX12_endMac_36 (hN 49 (by decide)) hC4.obj rfl ?_
    refine v_iload C eX12_endMac_39 6 rfl ?_
    refine n_bald C I eX12_endMac_41 (hN 22 (by decide)) (hC4.b 22 128 rfl (by decide)) j (rfl : nI j = nI j) (by omega) (by decide) ?_
    refine v_bipush (v := (92 : Int32)) C eX12_endMac_42 (by decide) ?_
    refine v_ixor C eX12_endMac_44 ?_
    refine n_callV (As := [.int (((bt ρ 22) j) ^^^ ((92 : Int32)))]) (rest := []) C I mX12_171 (rt_put I hN hT4 hk _) (hN 49 (by decide)) hC4.obj rfl (by decide) (by decide) ⟨by decide, by decide⟩ rfl (vi_k rfl) (Nat.le_of_ble_eq_true rfl) eX12_endMac_45 (fun r σ5 hp => ?_)
    obtain ⟨rfl, hT5, hk5⟩ := hp
    refine v_iinc (lv' := [(0, .ref (ad 49)), (1, .int (nI 1)), (2, .ref (ad ko)), (3, .int (nI a)), (4, .int (nI nn)), (5, .int ((64 : Int32))), (6, .int (nI (j + 1)))]) C eX12_endMac_48 6 rfl (ix_inc _) (by decide) [1, 2, 3, 4, 5, 6, 0] rfl ?_
    refine v_goto (tgt := 27) C eX12_endMac_51 (by decide) ?_
    refine ih σ5 ⟨?_, fun k hk => (hk5 k hk).trans (hk4 k hk)⟩
    rw [xorL_s, ← hkey j (by omega), ← bt_same (hk1 22 (by decide)), ← bt_same (hk2 22 (by decide)), ← bt_same (hk4 22 (by decide))]
    exact hT5

set_option maxRecDepth 100000 in
set_option maxHeartbeats 4000000 in
theorem rt_endMac3 (I : nI1 ad N) (hN : ∀ k, k < 74 → k < N) (hT : RT G ad θ x 3 bs σ) {key : List Int32} (hkey : ∀ i, i < 128 → bt σ 22 i = key.getD i 0) {ko no : Nat} (hko : rLn ko = no) (ho0 : 0 < no) (hf : ko ≠ 22 ∧ ko ≠ 23) (a nn : Nat) (ha : a + nn ≤ no) (hn32 : nn ≤ 32) : nOk G B l ad N yX12_endMac cX12_endMac 7 none 5 0 0 [.ref (ad 49), .int (nI 3), .ref (ad ko), .int (nI a), .int (nI nn)] σ (fun r σ' => r = none ∧ RS G ad θ x σ' ∧ (∀ k, ¬ (13 ≤ k ∧ k ≤ 17 ∨ k = 49 ∨ k = 23 ∨ k = ko) → σ' k = σ k) ∧ bt σ' ko = wr (bt σ ko) a (dgL θ 3 nn (xorL 92 key 128 ++ dgL θ 3 64 bs))) := by
  refine vOk.of (by decide +kernel) (Nat.le_of_ble_eq_true rfl) ?_
  intro p e s m args below meth c C
  refine v_eq (lv' := [(0, .ref (ad 49)), (1, .int (nI 3)), (2, .ref (ad ko)), (3, .int (nI a)), (4, .int (nI nn))]) rfl rfl rfl ?_
  have hC := hT.1
  have hk : 3 = 1 ∨ 3 = 3 ∨ 3 = 12 := by decide
  have hoh := rLn_h (k := ko) (by omega)
  refine v_iload_n C eX12_endMac_0 rfl 1 rfl ?_
  refine n_callS (av := [.int (nI 3)]) (rest := []) C mX12_190 (c_blockOf3) rfl (by decide) (by decide) ⟨by decide, by decide⟩ rfl (vi_c (rfl : nI 3 = nI 3) rfl) (Nat.le_of_ble_eq_true rfl) eX12_endMac_1 (fun r ρ hp => ?_)
  obtain ⟨rfl, hρ⟩ := hp
  rw [hρ]
  clear hρ ρ
  refine v_istore (lv' := [(0, .ref (ad 49)), (1, .int (nI 3)), (2, .ref (ad ko)), (3, .int (nI a)), (4, .int (nI nn)), (5, .int ((128 : Int32)))]) C eX12_endMac_4 (by decide) [1, 2, 3, 4, 5, 0] rfl ?_
  refine v_aload_n C eX12_endMac_6 rfl 0 rfl ?_
  refine v_aload_n C eX12_endMac_7 rfl 0 rfl ?_
  refine n_get C I fX12_66_X12 eX12_endMac_8 (hN 49 (by decide)) hC.obj rfl ?_
  refine v_iconst (v := (0 : Int32)) C eX12_endMac_11 (by decide) ?_
  refine v_iload_n C eX12_endMac_12 rfl 1 rfl ?_
  refine n_callS (av := [.int (nI 3)]) (rest := [.int ((0 : Int32)), .ref (ad 23), .ref (ad 49)]) C mX12_187 (c_digestOf3) rfl (by decide) (by decide) ⟨by decide, by decide⟩ rfl (vi_c (rfl : nI 3 = nI 3) rfl) (Nat.le_of_ble_eq_true rfl) eX12_endMac_13 (fun r ρ hp => ?_)
  obtain ⟨rfl, hρ⟩ := hp
  rw [hρ]
  clear hρ ρ
  refine n_callV (As := [.ref (ad 23), .int (nI 0), .int (nI 64)]) (rest := []) C I mX12_236 (rt_give I hN hT hk (ko := 23) (no := 64) rfl (by decide) 0 64 (by decide) (by decide)) (hN 49 (by decide)) hC.obj rfl (by decide) (by decide) ⟨by decide, by decide⟩ rfl (vi_c (rfl : nI 64 = nI 64) (vi_c (rfl : (0 : Int32) = nI 0) (vi_k rfl))) (Nat.le_of_ble_eq_true rfl) eX12_endMac_16 (fun r σ1 hp => ?_)
  obtain ⟨rfl, hC1, hk1, hv1⟩ := hp
  refine v_aload_n C eX12_endMac_19 rfl 0 rfl ?_
  refine v_iload_n C eX12_endMac_20 rfl 1 rfl ?_
  refine n_callV (As := [.int (nI 3)]) (rest := []) C I mX12_166 (rt_begin I hN hC1 hk) (hN 49 (by decide)) hC1.obj rfl (by decide) (by decide) ⟨by decide, by decide⟩ rfl (vi_c (rfl : nI 3 = nI 3) rfl) (Nat.le_of_ble_eq_true rfl) eX12_endMac_21 (fun r σ2 hp => ?_)
  obtain ⟨rfl, hT2, hk2⟩ := hp
  have hC2 := hT2.1
  refine v_iconst (v := nI 0) C eX12_endMac_24 (by decide) ?_
  refine v_istore (lv' := [(0, .ref (ad 49)), (1, .int (nI 3)), (2, .ref (ad ko)), (3, .int (nI a)), (4, .int (nI nn)), (5, .int ((128 : Int32))), (6, .int (nI 0))]) C eX12_endMac_25 (by decide) [1, 2, 3, 4, 5, 6, 0] rfl ?_
  refine v_forP (fun j ρ => RT G ad θ x 3 (xorL 92 key j) ρ ∧ (∀ k, ¬ (13 ≤ k ∧ k ≤ 17 ∨ k = 49) → ρ k = σ2 k)) (fun j => [(0, .ref (ad 49)), (1, .int (nI 3)), (2, .ref (ad ko)), (3, .int (nI a)), (4, .int (nI nn)), (5, .int ((128 : Int32))), (6, .int (nI j))]) 128 ?_ ?_ _ ⟨hT2, fun k _ => rfl⟩
  · intro ρ hI
    obtain ⟨hT4, hk4⟩ := hI
    have hC4 := hT4.1
    refine v_iload C eX12_endMac_27 6 rfl ?_
    refine v_iload C eX12_endMac_29 5 rfl ?_
    refine v_icmp_ge (tgt := 54) C eX12_endMac_31 (by decide) (fun _ => ?_) (fun h => absurd (ix_le (a := 128) (b := 128) (rfl : (128 : Int32) = nI 128) (rfl : nI 128 = nI 128) (by omega) (by omega) (by omega)) h)
    refine v_aload_n C eX12_endMac_54 rfl 0 rfl ?_
    refine v_aload_n C eX12_endMac_55 rfl 0 rfl ?_
    refine n_get C I fX12_66_X12 eX12_endMac_56 (hN 49 (by decide)) hC4.obj rfl ?_
    refine v_iconst (v := (0 : Int32)) C eX12_endMac_59 (by decide) ?_
    refine v_iload_n C eX12_endMac_60 rfl 1 rfl ?_
    refine n_callS (av := [.int (nI 3)]) (rest := [.int ((0 : Int32)), .ref (ad 23), .ref (ad 49)]) C mX12_187 (c_digestOf3) rfl (by decide) (by decide) ⟨by decide, by decide⟩ rfl (vi_c (rfl : nI 3 = nI 3) rfl) (Nat.le_of_ble_eq_true rfl) eX12_endMac_61 (fun r ρ1 hp => ?_)
    obtain ⟨rfl, hρ⟩ := hp
    rw [hρ]
    refine n_callV (As := [.ref (ad 23), .int (nI 0), .int (nI 64)]) (rest := []) C I mX12_233 (rt_putA I hN hT4 hk (kb := 23) (nb := 64) rfl (by decide) 0 64 (by decide)) (hN 49 (by decide)) hC4.obj rfl (by decide) (by decide) ⟨by decide, by decide⟩ rfl (vi_c (rfl : nI 64 = nI 64) (vi_c (rfl : (0 : Int32) = nI 0) (vi_k rfl))) (Nat.le_of_ble_eq_true rfl) eX12_endMac_64 (fun r σ5 hp => ?_)
    obtain ⟨rfl, hT5, hk5⟩ := hp
    have hC5 := hT5.1
    refine v_aload_n C eX12_endMac_67 rfl 0 rfl ?_
    refine v_aload_n C eX12_endMac_68 rfl 2 rfl ?_
    refine v_iload_n C eX12_endMac_69 rfl 3 rfl ?_
    refine v_iload C eX12_endMac_70 4 rfl ?_
    refine n_callV (As := [.ref (ad ko), .int (nI a), .int (nI nn)]) (rest := []) C I mX12_236 (rt_give I hN hT5 hk hko ho0 a nn (by show nn ≤ 64; omega) ha) (hN 49 (by decide)) hC5.obj rfl (by decide) (by decide) ⟨by decide, by decide⟩ rfl (vi_c (rfl : nI nn = nI nn) (vi_c (rfl : nI a = nI a) (vi_k rfl))) (Nat.le_of_ble_eq_true rfl) eX12_endMac_72 (fun r σ6 hp => ?_)
    obtain ⟨rfl, hC6, hk6, hv6⟩ := hp
    refine n_vret C rfl eX12_endMac_75 ⟨rfl, hC6, fun k hk => (hk6 k (by omega)).trans ((hk5 k (by omega)).trans ((hk4 k (by omega)).trans ((hk2 k (by omega)).trans (hk1 k (by omega))))), ?_⟩
    rw [hv6, bt_same (hk5 ko hoh), bt_same (hk4 ko hoh), bt_same (hk2 ko hoh), bt_same (hk1 ko (by omega)), bt_same (hk4 23 (by decide)), bt_same (hk2 23 (by decide)), hv1, sl_wr' dgL_len]
  · intro j hj ih ρ hI
    obtain ⟨hT4, hk4⟩ := hI
    have hC4 := hT4.1
    refine v_iload C eX12_endMac_27 6 rfl ?_
    refine v_iload C eX12_endMac_29 5 rfl ?_
    refine v_icmp_ge (tgt := 54) C eX12_endMac_31 (by decide) (fun h => absurd h (ix_nle (a := 128) (b := j) (rfl : (128 : Int32) = nI 128) (rfl : nI j = nI j) (by omega) (by omega) (by omega))) (fun _ => ?_)
    refine v_aload_n C eX12_endMac_34 rfl 0 rfl ?_
    refine v_aload_n C eX12_endMac_35 rfl 0 rfl ?_
    refine n_get C I fX12_63_X12 eX12_endMac_36 (hN 49 (by decide)) hC4.obj rfl ?_
    refine v_iload C eX12_endMac_39 6 rfl ?_
    refine n_bald C I eX12_endMac_41 (hN 22 (by decide)) (hC4.b 22 128 rfl (by decide)) j (rfl : nI j = nI j) (by omega) (by decide) ?_
    refine v_bipush (v := (92 : Int32)) C eX12_endMac_42 (by decide) ?_
    refine v_ixor C eX12_endMac_44 ?_
    refine n_callV (As := [.int (((bt ρ 22) j) ^^^ ((92 : Int32)))]) (rest := []) C I mX12_171 (rt_put I hN hT4 hk _) (hN 49 (by decide)) hC4.obj rfl (by decide) (by decide) ⟨by decide, by decide⟩ rfl (vi_k rfl) (Nat.le_of_ble_eq_true rfl) eX12_endMac_45 (fun r σ5 hp => ?_)
    obtain ⟨rfl, hT5, hk5⟩ := hp
    refine v_iinc (lv' := [(0, .ref (ad 49)), (1, .int (nI 3)), (2, .ref (ad ko)), (3, .int (nI a)), (4, .int (nI nn)), (5, .int ((128 : Int32))), (6, .int (nI (j + 1)))]) C eX12_endMac_48 6 rfl (ix_inc _) (by decide) [1, 2, 3, 4, 5, 6, 0] rfl ?_
    refine v_goto (tgt := 27) C eX12_endMac_51 (by decide) ?_
    refine ih σ5 ⟨?_, fun k hk => (hk5 k hk).trans (hk4 k hk)⟩
    rw [xorL_s, ← hkey j (by omega), ← bt_same (hk1 22 (by decide)), ← bt_same (hk2 22 (by decide)), ← bt_same (hk4 22 (by decide))]
    exact hT5

set_option maxRecDepth 100000 in
set_option maxHeartbeats 4000000 in
theorem rs_mask1 (I : nI1 ad N) (hN : ∀ k, k < 74 → k < N) (hC : RS G ad θ x σ) {kx nx : Nat} (hkx : rLn kx = nx) (hx0 : 0 < nx) {ko no : Nat} (hko : rLn ko = no) (ho0 : 0 < no) (hf : ko ≠ 23 ∧ kx ≠ 23 ∧ kx ≠ ko) (nl b mm : Nat) (ha : nl ≤ nx) (hm : mm ≤ 64) (hb : b + mm ≤ no) : nOk G B l ad N yX12_mask cX12_mask 10 none 5 0 0 [.ref (ad 49), .int (nI 1), .ref (ad kx), .int (nI nl), .ref (ad ko), .int (nI b), .int (nI mm)] σ (fun r σ' => r = none ∧ RS G ad θ x σ' ∧ (∀ k, ¬ (13 ≤ k ∧ k ≤ 17 ∨ k = 49 ∨ k = 23 ∨ k = ko) → σ' k = σ k) ∧ bt σ' ko = wr (bt σ ko) b (mkL θ 1 mm (sl (bt σ kx) 0 nl) ((mm + 31) / 32))) := by
  refine vOk.of (by decide +kernel) (Nat.le_of_ble_eq_true rfl) ?_
  intro p e s m args below meth c C
  refine v_eq (lv' := [(0, .ref (ad 49)), (1, .int (nI 1)), (2, .ref (ad kx)), (3, .int (nI nl)), (4, .ref (ad ko)), (5, .int (nI b)), (6, .int (nI mm))]) rfl rfl rfl ?_
  have hk : 1 = 1 ∨ 1 = 3 ∨ 1 = 12 := by decide
  have hoh := rLn_h (k := ko) (by omega)
  have hxh := rLn_h (k := kx) (by omega)
  have ho31 : no < 2 ^ 31 := hko ▸ rLn_31 (k := ko) (by omega)
  have hdz : dsz 1 = 32 := by decide
  refine v_iload_n C eX12_mask_0 rfl 1 rfl ?_
  refine n_callS (av := [.int (nI 1)]) (rest := []) C mX12_187 (c_digestOf1) rfl (by decide) (by decide) ⟨by decide, by decide⟩ rfl (vi_c (rfl : nI 1 = nI 1) rfl) (Nat.le_of_ble_eq_true rfl) eX12_mask_1 (fun r ρ hp => ?_)
  obtain ⟨rfl, hρ⟩ := hp
  rw [hρ]
  clear hρ ρ
  refine v_istore (lv' := [(0, .ref (ad 49)), (1, .int (nI 1)), (2, .ref (ad kx)), (3, .int (nI nl)), (4, .ref (ad ko)), (5, .int (nI b)), (6, .int (nI mm)), (7, .int (nI 32))]) C eX12_mask_4 (by decide) [1, 2, 3, 4, 5, 6, 7, 0] rfl ?_
  refine v_iconst (v := nI 0) C eX12_mask_6 (by decide) ?_
  refine v_istore (lv' := [(0, .ref (ad 49)), (1, .int (nI 1)), (2, .ref (ad kx)), (3, .int (nI nl)), (4, .ref (ad ko)), (5, .int (nI b)), (6, .int (nI mm)), (7, .int (nI 32)), (8, .int (nI 0))]) C eX12_mask_7 (by decide) [1, 2, 3, 4, 5, 6, 7, 8, 0] rfl ?_
  refine v_forP (fun j τ => RS G ad θ x τ ∧ (∀ k, ¬ (13 ≤ k ∧ k ≤ 17 ∨ k = 49 ∨ k = 23 ∨ k = ko) → τ k = σ k) ∧ bt τ ko = wr (bt σ ko) b (mkL θ 1 mm (sl (bt σ kx) 0 nl) j)) (fun j => [(0, .ref (ad 49)), (1, .int (nI 1)), (2, .ref (ad kx)), (3, .int (nI nl)), (4, .ref (ad ko)), (5, .int (nI b)), (6, .int (nI mm)), (7, .int (nI 32)), (8, .int (nI j))]) ((mm + 31) / 32) ?_ ?_ _ ⟨hC, fun k _ => rfl, wr_nil.symm⟩
  · intro τ hI
    obtain ⟨hC1, hk1, hv1⟩ := hI
    refine v_iload C eX12_mask_9 8 rfl ?_
    refine v_iload C eX12_mask_11 7 rfl ?_
    refine v_imul C eX12_mask_13 ?_
    refine v_iload C eX12_mask_14 6 rfl ?_
    refine v_icmp_ge (tgt := 116) C eX12_mask_16 (by decide) (fun _ => ?_) (fun h => absurd (ix_le (a := mm) (b := ((mm + 31) / 32) * 32) (rfl : nI mm = nI mm) (ix_mul (a := (mm + 31) / 32) (b := 32) (rfl : nI ((mm + 31) / 32) = nI ((mm + 31) / 32)) (rfl : nI 32 = nI 32)) (by omega) (by omega) (by omega)) h)
    exact n_vret C rfl eX12_mask_116 ⟨rfl, hC1, hk1, hv1⟩
  · intro j hj ih τ hI
    obtain ⟨hC1, hk1, hv1⟩ := hI
    refine v_iload C eX12_mask_9 8 rfl ?_
    refine v_iload C eX12_mask_11 7 rfl ?_
    refine v_imul C eX12_mask_13 ?_
    refine v_iload C eX12_mask_14 6 rfl ?_
    refine v_icmp_ge (tgt := 116) C eX12_mask_16 (by decide) (fun h => absurd h (ix_nle (a := mm) (b := j * 32) (rfl : nI mm = nI mm) (ix_mul (a := j) (b := 32) (rfl : nI j = nI j) (rfl : nI 32 = nI 32)) (by omega) (by omega) (by omega))) (fun _ => ?_)
    refine v_aload_n C eX12_mask_19 rfl 0 rfl ?_
    refine v_iload_n C eX12_mask_20 rfl 1 rfl ?_
    have hbx : bt τ kx = bt σ kx := bt_same (hk1 kx (by omega))
    refine n_callV (As := [.int (nI 1)]) (rest := []) C I mX12_166 (rt_begin I hN hC1 hk) (hN 49 (by decide)) hC1.obj rfl (by decide) (by decide) ⟨by decide, by decide⟩ rfl (vi_c (rfl : nI 1 = nI 1) rfl) (Nat.le_of_ble_eq_true rfl) eX12_mask_21 (fun r σ2 hp => ?_)
    obtain ⟨rfl, hT2, hk2⟩ := hp
    have hC2 := hT2.1
    refine v_aload_n C eX12_mask_24 rfl 0 rfl ?_
    refine v_aload_n C eX12_mask_25 rfl 2 rfl ?_
    refine v_iconst (v := (0 : Int32)) C eX12_mask_26 (by decide) ?_
    refine v_iload_n C eX12_mask_27 rfl 3 rfl ?_
    refine n_callV (As := [.ref (ad kx), .int (nI 0), .int (nI nl)]) (rest := []) C I mX12_233 (rt_putA I hN hT2 hk hkx hx0 0 nl (by omega)) (hN 49 (by decide)) hC2.obj rfl (by decide) (by decide) ⟨by decide, by decide⟩ rfl (vi_c (rfl : nI nl = nI nl) (vi_c (rfl : (0 : Int32) = nI 0) (vi_k rfl))) (Nat.le_of_ble_eq_true rfl) eX12_mask_28 (fun r σ3 hp => ?_)
    obtain ⟨rfl, hT3, hk3⟩ := hp
    have hC3 := hT3.1
    refine v_bipush (v := (24 : Int32)) C eX12_mask_31 (by decide) ?_
    refine v_istore (lv' := [(0, .ref (ad 49)), (1, .int (nI 1)), (2, .ref (ad kx)), (3, .int (nI nl)), (4, .ref (ad ko)), (5, .int (nI b)), (6, .int (nI mm)), (7, .int (nI 32)), (8, .int (nI j)), (9, .int ((24 : Int32)))]) C eX12_mask_33 (by decide) [1, 2, 3, 4, 5, 6, 7, 8, 9, 0] rfl ?_
    refine v_iload C eX12_mask_35 9 rfl ?_
    refine v_if_lt (tgt := 55) C eX12_mask_37 (by decide) (fun h => absurd h (by decide)) (fun _ => ?_)
    refine v_aload_n C eX12_mask_40 rfl 0 rfl ?_
    refine v_iload C eX12_mask_41 8 rfl ?_
    refine v_iload C eX12_mask_43 9 rfl ?_
    refine v_ishr C eX12_mask_45 ?_
    refine v_natT (show (nI j) >>> (((24 : Int32)) &&& 31) = nI (j / 16777216) from (ix_shr (rfl : nI j = nI j) 24 (by decide) (by omega))) ?_
    refine n_callV (As := [.int (nI (j / 16777216))]) (rest := []) C I mX12_171 (rt_put I hN hT3 hk _) (hN 49 (by decide)) hC3.obj rfl (by decide) (by decide) ⟨by decide, by decide⟩ rfl (vi_c (rfl : nI (j / 16777216) = nI (j / 16777216)) rfl) (Nat.le_of_ble_eq_true rfl) eX12_mask_46 (fun r σ4 hp => ?_)
    obtain ⟨rfl, hT4, hk4⟩ := hp
    have hC4 := hT4.1
    refine v_iinc (lv' := [(0, .ref (ad 49)), (1, .int (nI 1)), (2, .ref (ad kx)), (3, .int (nI nl)), (4, .ref (ad ko)), (5, .int (nI b)), (6, .int (nI mm)), (7, .int (nI 32)), (8, .int (nI j)), (9, .int ((16 : Int32)))]) C eX12_mask_49 9 rfl (by decide) (by decide) [1, 2, 3, 4, 5, 6, 7, 8, 9, 0] rfl ?_
    refine v_goto (tgt := 35) C eX12_mask_52 (by decide) ?_
    refine v_iload C eX12_mask_35 9 rfl ?_
    refine v_if_lt (tgt := 55) C eX12_mask_37 (by decide) (fun h => absurd h (by decide)) (fun _ => ?_)
    refine v_aload_n C eX12_mask_40 rfl 0 rfl ?_
    refine v_iload C eX12_mask_41 8 rfl ?_
    refine v_iload C eX12_mask_43 9 rfl ?_
    refine v_ishr C eX12_mask_45 ?_
    refine v_natT (show (nI j) >>> (((16 : Int32)) &&& 31) = nI (j / 65536) from (ix_shr (rfl : nI j = nI j) 16 (by decide) (by omega))) ?_
    refine n_callV (As := [.int (nI (j / 65536))]) (rest := []) C I mX12_171 (rt_put I hN hT4 hk _) (hN 49 (by decide)) hC4.obj rfl (by decide) (by decide) ⟨by decide, by decide⟩ rfl (vi_c (rfl : nI (j / 65536) = nI (j / 65536)) rfl) (Nat.le_of_ble_eq_true rfl) eX12_mask_46 (fun r σ5 hp => ?_)
    obtain ⟨rfl, hT5, hk5⟩ := hp
    have hC5 := hT5.1
    refine v_iinc (lv' := [(0, .ref (ad 49)), (1, .int (nI 1)), (2, .ref (ad kx)), (3, .int (nI nl)), (4, .ref (ad ko)), (5, .int (nI b)), (6, .int (nI mm)), (7, .int (nI 32)), (8, .int (nI j)), (9, .int ((8 : Int32)))]) C eX12_mask_49 9 rfl (by decide) (by decide) [1, 2, 3, 4, 5, 6, 7, 8, 9, 0] rfl ?_
    refine v_goto (tgt := 35) C eX12_mask_52 (by decide) ?_
    refine v_iload C eX12_mask_35 9 rfl ?_
    refine v_if_lt (tgt := 55) C eX12_mask_37 (by decide) (fun h => absurd h (by decide)) (fun _ => ?_)
    refine v_aload_n C eX12_mask_40 rfl 0 rfl ?_
    refine v_iload C eX12_mask_41 8 rfl ?_
    refine v_iload C eX12_mask_43 9 rfl ?_
    refine v_ishr C eX12_mask_45 ?_
    refine v_natT (show (nI j) >>> (((8 : Int32)) &&& 31) = nI (j / 256) from (ix_shr (rfl : nI j = nI j) 8 (by decide) (by omega))) ?_
    refine n_callV (As := [.int (nI (j / 256))]) (rest := []) C I mX12_171 (rt_put I hN hT5 hk _) (hN 49 (by decide)) hC5.obj rfl (by decide) (by decide) ⟨by decide, by decide⟩ rfl (vi_c (rfl : nI (j / 256) = nI (j / 256)) rfl) (Nat.le_of_ble_eq_true rfl) eX12_mask_46 (fun r σ6 hp => ?_)
    obtain ⟨rfl, hT6, hk6⟩ := hp
    have hC6 := hT6.1
    refine v_iinc (lv' := [(0, .ref (ad 49)), (1, .int (nI 1)), (2, .ref (ad kx)), (3, .int (nI nl)), (4, .ref (ad ko)), (5, .int (nI b)), (6, .int (nI mm)), (7, .int (nI 32)), (8, .int (nI j)), (9, .int ((0 : Int32)))]) C eX12_mask_49 9 rfl (by decide) (by decide) [1, 2, 3, 4, 5, 6, 7, 8, 9, 0] rfl ?_
    refine v_goto (tgt := 35) C eX12_mask_52 (by decide) ?_
    refine v_iload C eX12_mask_35 9 rfl ?_
    refine v_if_lt (tgt := 55) C eX12_mask_37 (by decide) (fun h => absurd h (by decide)) (fun _ => ?_)
    refine v_aload_n C eX12_mask_40 rfl 0 rfl ?_
    refine v_iload C eX12_mask_41 8 rfl ?_
    refine v_iload C eX12_mask_43 9 rfl ?_
    refine v_ishr C eX12_mask_45 ?_
    refine v_natT (show (nI j) >>> (((0 : Int32)) &&& 31) = nI (j / 1) from (ix_shr (rfl : nI j = nI j) 0 (by decide) (by omega))) ?_
    refine n_callV (As := [.int (nI (j / 1))]) (rest := []) C I mX12_171 (rt_put I hN hT6 hk _) (hN 49 (by decide)) hC6.obj rfl (by decide) (by decide) ⟨by decide, by decide⟩ rfl (vi_c (rfl : nI (j / 1) = nI (j / 1)) rfl) (Nat.le_of_ble_eq_true rfl) eX12_mask_46 (fun r σ7 hp => ?_)
    obtain ⟨rfl, hT7, hk7⟩ := hp
    have hC7 := hT7.1
    refine v_iinc (lv' := [(0, .ref (ad 49)), (1, .int (nI 1)), (2, .ref (ad kx)), (3, .int (nI nl)), (4, .ref (ad ko)), (5, .int (nI b)), (6, .int (nI mm)), (7, .int (nI 32)), (8, .int (nI j)), (9, .int ((-8 : Int32)))]) C eX12_mask_49 9 rfl (by decide) (by decide) [1, 2, 3, 4, 5, 6, 7, 8, 9, 0] rfl ?_
    refine v_goto (tgt := 35) C eX12_mask_52 (by decide) ?_
    refine v_iload C eX12_mask_35 9 rfl ?_
    refine v_if_lt (tgt := 55) C eX12_mask_37 (by decide) (fun _ => ?_) (fun h => absurd (by decide) h)
    refine v_aload_n C eX12_mask_55 rfl 0 rfl ?_
    refine v_aload_n C eX12_mask_56 rfl 0 rfl ?_
    refine n_get C I fX12_66_X12 eX12_mask_57 (hN 49 (by decide)) hC7.obj rfl ?_
    refine v_iconst (v := (0 : Int32)) C eX12_mask_60 (by decide) ?_
    refine v_iload C eX12_mask_61 7 rfl ?_
    have hT7' : RT G ad θ x 1 (sl (bt σ kx) 0 nl ++ ctL j) σ7 := by rw [bt_same (hk2 kx hxh), hbx] at hT7; simpa [ctL] using hT7
    refine n_callV (As := [.ref (ad 23), .int (nI 0), .int (nI 32)]) (rest := []) C I mX12_236 (rt_give I hN hT7' hk (ko := 23) (no := 64) rfl (by decide) 0 32 (by decide) (by decide)) (hN 49 (by decide)) hC7.obj rfl (by decide) (by decide) ⟨by decide, by decide⟩ rfl (vi_c (rfl : nI 32 = nI 32) (vi_c (rfl : (0 : Int32) = nI 0) (vi_k rfl))) (Nat.le_of_ble_eq_true rfl) eX12_mask_63 (fun r σ8 hp => ?_)
    obtain ⟨rfl, hC8, hk8, hv8⟩ := hp
    refine v_aload_n C eX12_mask_66 rfl 0 rfl ?_
    refine n_get C I fX12_66_X12 eX12_mask_67 (hN 49 (by decide)) hC8.obj rfl ?_
    refine v_iconst (v := (0 : Int32)) C eX12_mask_70 (by decide) ?_
    refine v_aload C eX12_mask_71 4 rfl ?_
    refine v_iload C eX12_mask_73 5 rfl ?_
    refine v_iload C eX12_mask_75 8 rfl ?_
    refine v_iload C eX12_mask_77 7 rfl ?_
    refine v_imul C eX12_mask_79 ?_
    refine v_iadd C eX12_mask_80 ?_
    refine v_iload C eX12_mask_81 6 rfl ?_
    refine v_iload C eX12_mask_83 8 rfl ?_
    refine v_iload C eX12_mask_85 7 rfl ?_
    refine v_imul C eX12_mask_87 ?_
    refine v_isub C eX12_mask_88 ?_
    refine v_iload C eX12_mask_89 7 rfl ?_
    have hko8 : bt σ8 ko = bt τ ko := by rw [bt_same (hk8 ko (by omega)), bt_same (hk7 ko hoh), bt_same (hk6 ko hoh), bt_same (hk5 ko hoh), bt_same (hk4 ko hoh), bt_same (hk3 ko hoh), bt_same (hk2 ko hoh)]
    by_cases c : mm - j * 32 < 32
    · refine v_icmp_ge (tgt := 105) C eX12_mask_91 (by decide) (fun h => absurd h (ix_nle (a := 32) (b := mm - (j * 32)) (rfl : nI 32 = nI 32) (ix_sub (a := mm) (b := j * 32) (rfl : nI mm = nI mm) (ix_mul (a := j) (b := 32) (rfl : nI j = nI j) (rfl : nI 32 = nI 32)) (by omega)) (by omega) (by omega) (by omega))) (fun _ => ?_)
      refine v_iload C eX12_mask_94 6 rfl ?_
      refine v_iload C eX12_mask_96 8 rfl ?_
      refine v_iload C eX12_mask_98 7 rfl ?_
      refine v_imul C eX12_mask_100 ?_
      refine v_isub C eX12_mask_101 ?_
      refine v_goto (tgt := 107) C eX12_mask_102 (by decide) ?_
      refine n_callS (av := [.ref (ad 23), .int (nI 0), .ref (ad ko), .int (nI (b + (j * 32))), .int (nI (mm - (j * 32)))]) (rest := []) C mX12_239 (rs_mv I hN hC8 (kx := 23) (nx := 64) rfl (by decide) hko ho0 (by omega) 0 (b + j * 32) (mm - j * 32) (by omega) (by omega) (by rw [hv8, sl_wr_take (by rw [dgL_len]; omega)]; exact nrw_take nrw_dgL)) rfl (by decide) (by decide) ⟨by decide, by decide⟩ rfl (vi_c (ix_sub (a := mm) (b := j * 32) (rfl : nI mm = nI mm) (ix_mul (a := j) (b := 32) (rfl : nI j = nI j) (rfl : nI 32 = nI 32)) (by omega)) (vi_c (ix_add (a := b) (b := j * 32) (rfl : nI b = nI b) (ix_mul (a := j) (b := 32) (rfl : nI j = nI j) (rfl : nI 32 = nI 32))) (vi_k (vi_c (rfl : (0 : Int32) = nI 0) (vi_k rfl))))) (Nat.le_of_ble_eq_true rfl) eX12_mask_107 (fun r σ9 hp => ?_)
      obtain ⟨rfl, hC9, hk9, hv9⟩ := hp
      refine v_iinc (lv' := [(0, .ref (ad 49)), (1, .int (nI 1)), (2, .ref (ad kx)), (3, .int (nI nl)), (4, .ref (ad ko)), (5, .int (nI b)), (6, .int (nI mm)), (7, .int (nI 32)), (8, .int (nI (j + 1))), (9, .int ((-8 : Int32)))]) C eX12_mask_110 8 rfl (ix_inc _) (by decide) [1, 2, 3, 4, 5, 6, 7, 8, 0, 9] rfl ?_
      refine v_goto (tgt := 9) C eX12_mask_113 (by decide) ?_
      refine v_pick (lv' := [(0, .ref (ad 49)), (1, .int (nI 1)), (2, .ref (ad kx)), (3, .int (nI nl)), (4, .ref (ad ko)), (5, .int (nI b)), (6, .int (nI mm)), (7, .int (nI 32)), (8, .int (nI (j + 1)))]) [0, 1, 2, 3, 4, 5, 6, 7, 8] rfl ?_
      refine ih σ9 ⟨hC9, fun k hk => (hk9 k (by omega)).trans ((hk8 k (by omega)).trans ((hk7 k (by omega)).trans ((hk6 k (by omega)).trans ((hk5 k (by omega)).trans ((hk4 k (by omega)).trans ((hk3 k (by omega)).trans ((hk2 k (by omega)).trans (hk1 k hk)))))))), ?_⟩
      rw [hv9, hko8, hv1, hv8, sl_wr_take (by rw [dgL_len]; omega), wr_app (by rw [mkL_len j (by rw [hdz]; omega), hdz])]
      show _ = wr (bt σ ko) b (mkL θ 1 mm (sl (bt σ kx) 0 nl) j ++ mkB θ 1 mm (sl (bt σ kx) 0 nl) j)
      unfold mkB; rw [hdz]
    · refine v_icmp_ge (tgt := 105) C eX12_mask_91 (by decide) (fun _ => ?_) (fun h => absurd (ix_le (a := 32) (b := mm - (j * 32)) (rfl : nI 32 = nI 32) (ix_sub (a := mm) (b := j * 32) (rfl : nI mm = nI mm) (ix_mul (a := j) (b := 32) (rfl : nI j = nI j) (rfl : nI 32 = nI 32)) (by omega)) (by omega) (by omega) (by omega)) h)
      refine v_iload C eX12_mask_105 7 rfl ?_
      refine n_callS (av := [.ref (ad 23), .int (nI 0), .ref (ad ko), .int (nI (b + (j * 32))), .int (nI 32)]) (rest := []) C mX12_239 (rs_mv I hN hC8 (kx := 23) (nx := 64) rfl (by decide) hko ho0 (by omega) 0 (b + j * 32) 32 (by omega) (by omega) (by rw [hv8, sl_wr_take (by rw [dgL_len]; omega)]; exact nrw_take nrw_dgL)) rfl (by decide) (by decide) ⟨by decide, by decide⟩ rfl (vi_c (rfl : nI 32 = nI 32) (vi_c (ix_add (a := b) (b := j * 32) (rfl : nI b = nI b) (ix_mul (a := j) (b := 32) (rfl : nI j = nI j) (rfl : nI 32 = nI 32))) (vi_k (vi_c (rfl : (0 : Int32) = nI 0) (vi_k rfl))))) (Nat.le_of_ble_eq_true rfl) eX12_mask_107 (fun r σ9 hp => ?_)
      obtain ⟨rfl, hC9, hk9, hv9⟩ := hp
      refine v_iinc (lv' := [(0, .ref (ad 49)), (1, .int (nI 1)), (2, .ref (ad kx)), (3, .int (nI nl)), (4, .ref (ad ko)), (5, .int (nI b)), (6, .int (nI mm)), (7, .int (nI 32)), (8, .int (nI (j + 1))), (9, .int ((-8 : Int32)))]) C eX12_mask_110 8 rfl (ix_inc _) (by decide) [1, 2, 3, 4, 5, 6, 7, 8, 0, 9] rfl ?_
      refine v_goto (tgt := 9) C eX12_mask_113 (by decide) ?_
      refine v_pick (lv' := [(0, .ref (ad 49)), (1, .int (nI 1)), (2, .ref (ad kx)), (3, .int (nI nl)), (4, .ref (ad ko)), (5, .int (nI b)), (6, .int (nI mm)), (7, .int (nI 32)), (8, .int (nI (j + 1)))]) [0, 1, 2, 3, 4, 5, 6, 7, 8] rfl ?_
      refine ih σ9 ⟨hC9, fun k hk => (hk9 k (by omega)).trans ((hk8 k (by omega)).trans ((hk7 k (by omega)).trans ((hk6 k (by omega)).trans ((hk5 k (by omega)).trans ((hk4 k (by omega)).trans ((hk3 k (by omega)).trans ((hk2 k (by omega)).trans (hk1 k hk)))))))), ?_⟩
      rw [hv9, hko8, hv1, hv8, sl_wr_take (by rw [dgL_len]; omega), wr_app (by rw [mkL_len j (by rw [hdz]; omega), hdz])]
      show _ = wr (bt σ ko) b (mkL θ 1 mm (sl (bt σ kx) 0 nl) j ++ mkB θ 1 mm (sl (bt σ kx) 0 nl) j)
      unfold mkB; rw [hdz, List.take_of_length_le (i := mm - j * 32) (by rw [dgL_len]; omega), List.take_of_length_le (by rw [dgL_len]; omega)]

set_option maxRecDepth 100000 in
set_option maxHeartbeats 4000000 in
theorem rs_mask3 (I : nI1 ad N) (hN : ∀ k, k < 74 → k < N) (hC : RS G ad θ x σ) {kx nx : Nat} (hkx : rLn kx = nx) (hx0 : 0 < nx) {ko no : Nat} (hko : rLn ko = no) (ho0 : 0 < no) (hf : ko ≠ 23 ∧ kx ≠ 23 ∧ kx ≠ ko) (nl b mm : Nat) (ha : nl ≤ nx) (hm : mm ≤ 64) (hb : b + mm ≤ no) : nOk G B l ad N yX12_mask cX12_mask 10 none 5 0 0 [.ref (ad 49), .int (nI 3), .ref (ad kx), .int (nI nl), .ref (ad ko), .int (nI b), .int (nI mm)] σ (fun r σ' => r = none ∧ RS G ad θ x σ' ∧ (∀ k, ¬ (13 ≤ k ∧ k ≤ 17 ∨ k = 49 ∨ k = 23 ∨ k = ko) → σ' k = σ k) ∧ bt σ' ko = wr (bt σ ko) b (mkL θ 3 mm (sl (bt σ kx) 0 nl) ((mm + 63) / 64))) := by
  refine vOk.of (by decide +kernel) (Nat.le_of_ble_eq_true rfl) ?_
  intro p e s m args below meth c C
  refine v_eq (lv' := [(0, .ref (ad 49)), (1, .int (nI 3)), (2, .ref (ad kx)), (3, .int (nI nl)), (4, .ref (ad ko)), (5, .int (nI b)), (6, .int (nI mm))]) rfl rfl rfl ?_
  have hk : 3 = 1 ∨ 3 = 3 ∨ 3 = 12 := by decide
  have hoh := rLn_h (k := ko) (by omega)
  have hxh := rLn_h (k := kx) (by omega)
  have ho31 : no < 2 ^ 31 := hko ▸ rLn_31 (k := ko) (by omega)
  have hdz : dsz 3 = 64 := by decide
  refine v_iload_n C eX12_mask_0 rfl 1 rfl ?_
  refine n_callS (av := [.int (nI 3)]) (rest := []) C mX12_187 (c_digestOf3) rfl (by decide) (by decide) ⟨by decide, by decide⟩ rfl (vi_c (rfl : nI 3 = nI 3) rfl) (Nat.le_of_ble_eq_true rfl) eX12_mask_1 (fun r ρ hp => ?_)
  obtain ⟨rfl, hρ⟩ := hp
  rw [hρ]
  clear hρ ρ
  refine v_istore (lv' := [(0, .ref (ad 49)), (1, .int (nI 3)), (2, .ref (ad kx)), (3, .int (nI nl)), (4, .ref (ad ko)), (5, .int (nI b)), (6, .int (nI mm)), (7, .int (nI 64))]) C eX12_mask_4 (by decide) [1, 2, 3, 4, 5, 6, 7, 0] rfl ?_
  refine v_iconst (v := nI 0) C eX12_mask_6 (by decide) ?_
  refine v_istore (lv' := [(0, .ref (ad 49)), (1, .int (nI 3)), (2, .ref (ad kx)), (3, .int (nI nl)), (4, .ref (ad ko)), (5, .int (nI b)), (6, .int (nI mm)), (7, .int (nI 64)), (8, .int (nI 0))]) C eX12_mask_7 (by decide) [1, 2, 3, 4, 5, 6, 7, 8, 0] rfl ?_
  refine v_forP (fun j τ => RS G ad θ x τ ∧ (∀ k, ¬ (13 ≤ k ∧ k ≤ 17 ∨ k = 49 ∨ k = 23 ∨ k = ko) → τ k = σ k) ∧ bt τ ko = wr (bt σ ko) b (mkL θ 3 mm (sl (bt σ kx) 0 nl) j)) (fun j => [(0, .ref (ad 49)), (1, .int (nI 3)), (2, .ref (ad kx)), (3, .int (nI nl)), (4, .ref (ad ko)), (5, .int (nI b)), (6, .int (nI mm)), (7, .int (nI 64)), (8, .int (nI j))]) ((mm + 63) / 64) ?_ ?_ _ ⟨hC, fun k _ => rfl, wr_nil.symm⟩
  · intro τ hI
    obtain ⟨hC1, hk1, hv1⟩ := hI
    refine v_iload C eX12_mask_9 8 rfl ?_
    refine v_iload C eX12_mask_11 7 rfl ?_
    refine v_imul C eX12_mask_13 ?_
    refine v_iload C eX12_mask_14 6 rfl ?_
    refine v_icmp_ge (tgt := 116) C eX12_mask_16 (by decide) (fun _ => ?_) (fun h => absurd (ix_le (a := mm) (b := ((mm + 63) / 64) * 64) (rfl : nI mm = nI mm) (ix_mul (a := (mm + 63) / 64) (b := 64) (rfl : nI ((mm + 63) / 64) = nI ((mm + 63) / 64)) (rfl : nI 64 = nI 64)) (by omega) (by omega) (by omega)) h)
    exact n_vret C rfl eX12_mask_116 ⟨rfl, hC1, hk1, hv1⟩
  · intro j hj ih τ hI
    obtain ⟨hC1, hk1, hv1⟩ := hI
    refine v_iload C eX12_mask_9 8 rfl ?_
    refine v_iload C eX12_mask_11 7 rfl ?_
    refine v_imul C eX12_mask_13 ?_
    refine v_iload C eX12_mask_14 6 rfl ?_
    refine v_icmp_ge (tgt := 116) C eX12_mask_16 (by decide) (fun h => absurd h (ix_nle (a := mm) (b := j * 64) (rfl : nI mm = nI mm) (ix_mul (a := j) (b := 64) (rfl : nI j = nI j) (rfl : nI 64 = nI 64)) (by omega) (by omega) (by omega))) (fun _ => ?_)
    refine v_aload_n C eX12_mask_19 rfl 0 rfl ?_
    refine v_iload_n C eX12_mask_20 rfl 1 rfl ?_
    have hbx : bt τ kx = bt σ kx := bt_same (hk1 kx (by omega))
    refine n_callV (As := [.int (nI 3)]) (rest := []) C I mX12_166 (rt_begin I hN hC1 hk) (hN 49 (by decide)) hC1.obj rfl (by decide) (by decide) ⟨by decide, by decide⟩ rfl (vi_c (rfl : nI 3 = nI 3) rfl) (Nat.le_of_ble_eq_true rfl) eX12_mask_21 (fun r σ2 hp => ?_)
    obtain ⟨rfl, hT2, hk2⟩ := hp
    have hC2 := hT2.1
    refine v_aload_n C eX12_mask_24 rfl 0 rfl ?_
    refine v_aload_n C eX12_mask_25 rfl 2 rfl ?_
    refine v_iconst (v := (0 : Int32)) C eX12_mask_26 (by decide) ?_
    refine v_iload_n C eX12_mask_27 rfl 3 rfl ?_
    refine n_callV (As := [.ref (ad kx), .int (nI 0), .int (nI nl)]) (rest := []) C I mX12_233 (rt_putA I hN hT2 hk hkx hx0 0 nl (by omega)) (hN 49 (by decide)) hC2.obj rfl (by decide) (by decide) ⟨by decide, by decide⟩ rfl (vi_c (rfl : nI nl = nI nl) (vi_c (rfl : (0 : Int32) = nI 0) (vi_k rfl))) (Nat.le_of_ble_eq_true rfl) eX12_mask_28 (fun r σ3 hp => ?_)
    obtain ⟨rfl, hT3, hk3⟩ := hp
    have hC3 := hT3.1
    refine v_bipush (v := (24 : Int32)) C eX12_mask_31 (by decide) ?_
    refine v_istore (lv' := [(0, .ref (ad 49)), (1, .int (nI 3)), (2, .ref (ad kx)), (3, .int (nI nl)), (4, .ref (ad ko)), (5, .int (nI b)), (6, .int (nI mm)), (7, .int (nI 64)), (8, .int (nI j)), (9, .int ((24 : Int32)))]) C eX12_mask_33 (by decide) [1, 2, 3, 4, 5, 6, 7, 8, 9, 0] rfl ?_
    refine v_iload C eX12_mask_35 9 rfl ?_
    refine v_if_lt (tgt := 55) C eX12_mask_37 (by decide) (fun h => absurd h (by decide)) (fun _ => ?_)
    refine v_aload_n C eX12_mask_40 rfl 0 rfl ?_
    refine v_iload C eX12_mask_41 8 rfl ?_
    refine v_iload C eX12_mask_43 9 rfl ?_
    refine v_ishr C eX12_mask_45 ?_
    refine v_natT (show (nI j) >>> (((24 : Int32)) &&& 31) = nI (j / 16777216) from (ix_shr (rfl : nI j = nI j) 24 (by decide) (by omega))) ?_
    refine n_callV (As := [.int (nI (j / 16777216))]) (rest := []) C I mX12_171 (rt_put I hN hT3 hk _) (hN 49 (by decide)) hC3.obj rfl (by decide) (by decide) ⟨by decide, by decide⟩ rfl (vi_c (rfl : nI (j / 16777216) = nI (j / 16777216)) rfl) (Nat.le_of_ble_eq_true rfl) eX12_mask_46 (fun r σ4 hp => ?_)
    obtain ⟨rfl, hT4, hk4⟩ := hp
    have hC4 := hT4.1
    refine v_iinc (lv' := [(0, .ref (ad 49)), (1, .int (nI 3)), (2, .ref (ad kx)), (3, .int (nI nl)), (4, .ref (ad ko)), (5, .int (nI b)), (6, .int (nI mm)), (7, .int (nI 64)), (8, .int (nI j)), (9, .int ((16 : Int32)))]) C eX12_mask_49 9 rfl (by decide) (by decide) [1, 2, 3, 4, 5, 6, 7, 8, 9, 0] rfl ?_
    refine v_goto (tgt := 35) C eX12_mask_52 (by decide) ?_
    refine v_iload C eX12_mask_35 9 rfl ?_
    refine v_if_lt (tgt := 55) C eX12_mask_37 (by decide) (fun h => absurd h (by decide)) (fun _ => ?_)
    refine v_aload_n C eX12_mask_40 rfl 0 rfl ?_
    refine v_iload C eX12_mask_41 8 rfl ?_
    refine v_iload C eX12_mask_43 9 rfl ?_
    refine v_ishr C eX12_mask_45 ?_
    refine v_natT (show (nI j) >>> (((16 : Int32)) &&& 31) = nI (j / 65536) from (ix_shr (rfl : nI j = nI j) 16 (by decide) (by omega))) ?_
    refine n_callV (As := [.int (nI (j / 65536))]) (rest := []) C I mX12_171 (rt_put I hN hT4 hk _) (hN 49 (by decide)) hC4.obj rfl (by decide) (by decide) ⟨by decide, by decide⟩ rfl (vi_c (rfl : nI (j / 65536) = nI (j / 65536)) rfl) (Nat.le_of_ble_eq_true rfl) eX12_mask_46 (fun r σ5 hp => ?_)
    obtain ⟨rfl, hT5, hk5⟩ := hp
    have hC5 := hT5.1
    refine v_iinc (lv' := [(0, .ref (ad 49)), (1, .int (nI 3)), (2, .ref (ad kx)), (3, .int (nI nl)), (4, .ref (ad ko)), (5, .int (nI b)), (6, .int (nI mm)), (7, .int (nI 64)), (8, .int (nI j)), (9, .int ((8 : Int32)))]) C eX12_mask_49 9 rfl (by decide) (by decide) [1, 2, 3, 4, 5, 6, 7, 8, 9, 0] rfl ?_
    refine v_goto (tgt := 35) C eX12_mask_52 (by decide) ?_
    refine v_iload C eX12_mask_35 9 rfl ?_
    refine v_if_lt (tgt := 55) C eX12_mask_37 (by decide) (fun h => absurd h (by decide)) (fun _ => ?_)
    refine v_aload_n C eX12_mask_40 rfl 0 rfl ?_
    refine v_iload C eX12_mask_41 8 rfl ?_
    refine v_iload C eX12_mask_43 9 rfl ?_
    refine v_ishr C eX12_mask_45 ?_
    refine v_natT (show (nI j) >>> (((8 : Int32)) &&& 31) = nI (j / 256) from (ix_shr (rfl : nI j = nI j) 8 (by decide) (by omega))) ?_
    refine n_callV (As := [.int (nI (j / 256))]) (rest := []) C I mX12_171 (rt_put I hN hT5 hk _) (hN 49 (by decide)) hC5.obj rfl (by decide) (by decide) ⟨by decide, by decide⟩ rfl (vi_c (rfl : nI (j / 256) = nI (j / 256)) rfl) (Nat.le_of_ble_eq_true rfl) eX12_mask_46 (fun r σ6 hp => ?_)
    obtain ⟨rfl, hT6, hk6⟩ := hp
    have hC6 := hT6.1
    refine v_iinc (lv' := [(0, .ref (ad 49)), (1, .int (nI 3)), (2, .ref (ad kx)), (3, .int (nI nl)), (4, .ref (ad ko)), (5, .int (nI b)), (6, .int (nI mm)), (7, .int (nI 64)), (8, .int (nI j)), (9, .int ((0 : Int32)))]) C eX12_mask_49 9 rfl (by decide) (by decide) [1, 2, 3, 4, 5, 6, 7, 8, 9, 0] rfl ?_
    refine v_goto (tgt := 35) C eX12_mask_52 (by decide) ?_
    refine v_iload C eX12_mask_35 9 rfl ?_
    refine v_if_lt (tgt := 55) C eX12_mask_37 (by decide) (fun h => absurd h (by decide)) (fun _ => ?_)
    refine v_aload_n C eX12_mask_40 rfl 0 rfl ?_
    refine v_iload C eX12_mask_41 8 rfl ?_
    refine v_iload C eX12_mask_43 9 rfl ?_
    refine v_ishr C eX12_mask_45 ?_
    refine v_natT (show (nI j) >>> (((0 : Int32)) &&& 31) = nI (j / 1) from (ix_shr (rfl : nI j = nI j) 0 (by decide) (by omega))) ?_
    refine n_callV (As := [.int (nI (j / 1))]) (rest := []) C I mX12_171 (rt_put I hN hT6 hk _) (hN 49 (by decide)) hC6.obj rfl (by decide) (by decide) ⟨by decide, by decide⟩ rfl (vi_c (rfl : nI (j / 1) = nI (j / 1)) rfl) (Nat.le_of_ble_eq_true rfl) eX12_mask_46 (fun r σ7 hp => ?_)
    obtain ⟨rfl, hT7, hk7⟩ := hp
    have hC7 := hT7.1
    refine v_iinc (lv' := [(0, .ref (ad 49)), (1, .int (nI 3)), (2, .ref (ad kx)), (3, .int (nI nl)), (4, .ref (ad ko)), (5, .int (nI b)), (6, .int (nI mm)), (7, .int (nI 64)), (8, .int (nI j)), (9, .int ((-8 : Int32)))]) C eX12_mask_49 9 rfl (by decide) (by decide) [1, 2, 3, 4, 5, 6, 7, 8, 9, 0] rfl ?_
    refine v_goto (tgt := 35) C eX12_mask_52 (by decide) ?_
    refine v_iload C eX12_mask_35 9 rfl ?_
    refine v_if_lt (tgt := 55) C eX12_mask_37 (by decide) (fun _ => ?_) (fun h => absurd (by decide) h)
    refine v_aload_n C eX12_mask_55 rfl 0 rfl ?_
    refine v_aload_n C eX12_mask_56 rfl 0 rfl ?_
    refine n_get C I fX12_66_X12 eX12_mask_57 (hN 49 (by decide)) hC7.obj rfl ?_
    refine v_iconst (v := (0 : Int32)) C eX12_mask_60 (by decide) ?_
    refine v_iload C eX12_mask_61 7 rfl ?_
    have hT7' : RT G ad θ x 3 (sl (bt σ kx) 0 nl ++ ctL j) σ7 := by rw [bt_same (hk2 kx hxh), hbx] at hT7; simpa [ctL] using hT7
    refine n_callV (As := [.ref (ad 23), .int (nI 0), .int (nI 64)]) (rest := []) C I mX12_236 (rt_give I hN hT7' hk (ko := 23) (no := 64) rfl (by decide) 0 64 (by decide) (by decide)) (hN 49 (by decide)) hC7.obj rfl (by decide) (by decide) ⟨by decide, by decide⟩ rfl (vi_c (rfl : nI 64 = nI 64) (vi_c (rfl : (0 : Int32) = nI 0) (vi_k rfl))) (Nat.le_of_ble_eq_true rfl) eX12_mask_63 (fun r σ8 hp => ?_)
    obtain ⟨rfl, hC8, hk8, hv8⟩ := hp
    refine v_aload_n C eX12_mask_66 rfl 0 rfl ?_
    refine n_get C I fX12_66_X12 eX12_mask_67 (hN 49 (by decide)) hC8.obj rfl ?_
    refine v_iconst (v := (0 : Int32)) C eX12_mask_70 (by decide) ?_
    refine v_aload C eX12_mask_71 4 rfl ?_
    refine v_iload C eX12_mask_73 5 rfl ?_
    refine v_iload C eX12_mask_75 8 rfl ?_
    refine v_iload C eX12_mask_77 7 rfl ?_
    refine v_imul C eX12_mask_79 ?_
    refine v_iadd C eX12_mask_80 ?_
    refine v_iload C eX12_mask_81 6 rfl ?_
    refine v_iload C eX12_mask_83 8 rfl ?_
    refine v_iload C eX12_mask_85 7 rfl ?_
    refine v_imul C eX12_mask_87 ?_
    refine v_isub C eX12_mask_88 ?_
    refine v_iload C eX12_mask_89 7 rfl ?_
    have hko8 : bt σ8 ko = bt τ ko := by rw [bt_same (hk8 ko (by omega)), bt_same (hk7 ko hoh), bt_same (hk6 ko hoh), bt_same (hk5 ko hoh), bt_same (hk4 ko hoh), bt_same (hk3 ko hoh), bt_same (hk2 ko hoh)]
    by_cases c : mm - j * 64 < 64
    · refine v_icmp_ge (tgt := 105) C eX12_mask_91 (by decide) (fun h => absurd h (ix_nle (a := 64) (b := mm - (j * 64)) (rfl : nI 64 = nI 64) (ix_sub (a := mm) (b := j * 64) (rfl : nI mm = nI mm) (ix_mul (a := j) (b := 64) (rfl : nI j = nI j) (rfl : nI 64 = nI 64)) (by omega)) (by omega) (by omega) (by omega))) (fun _ => ?_)
      refine v_iload C eX12_mask_94 6 rfl ?_
      refine v_iload C eX12_mask_96 8 rfl ?_
      refine v_iload C eX12_mask_98 7 rfl ?_
      refine v_imul C eX12_mask_100 ?_
      refine v_isub C eX12_mask_101 ?_
      refine v_goto (tgt := 107) C eX12_mask_102 (by decide) ?_
      refine n_callS (av := [.ref (ad 23), .int (nI 0), .ref (ad ko), .int (nI (b + (j * 64))), .int (nI (mm - (j * 64)))]) (rest := []) C mX12_239 (rs_mv I hN hC8 (kx := 23) (nx := 64) rfl (by decide) hko ho0 (by omega) 0 (b + j * 64) (mm - j * 64) (by omega) (by omega) (by rw [hv8, sl_wr_take (by rw [dgL_len]; omega)]; exact nrw_take nrw_dgL)) rfl (by decide) (by decide) ⟨by decide, by decide⟩ rfl (vi_c (ix_sub (a := mm) (b := j * 64) (rfl : nI mm = nI mm) (ix_mul (a := j) (b := 64) (rfl : nI j = nI j) (rfl : nI 64 = nI 64)) (by omega)) (vi_c (ix_add (a := b) (b := j * 64) (rfl : nI b = nI b) (ix_mul (a := j) (b := 64) (rfl : nI j = nI j) (rfl : nI 64 = nI 64))) (vi_k (vi_c (rfl : (0 : Int32) = nI 0) (vi_k rfl))))) (Nat.le_of_ble_eq_true rfl) eX12_mask_107 (fun r σ9 hp => ?_)
      obtain ⟨rfl, hC9, hk9, hv9⟩ := hp
      refine v_iinc (lv' := [(0, .ref (ad 49)), (1, .int (nI 3)), (2, .ref (ad kx)), (3, .int (nI nl)), (4, .ref (ad ko)), (5, .int (nI b)), (6, .int (nI mm)), (7, .int (nI 64)), (8, .int (nI (j + 1))), (9, .int ((-8 : Int32)))]) C eX12_mask_110 8 rfl (ix_inc _) (by decide) [1, 2, 3, 4, 5, 6, 7, 8, 0, 9] rfl ?_
      refine v_goto (tgt := 9) C eX12_mask_113 (by decide) ?_
      refine v_pick (lv' := [(0, .ref (ad 49)), (1, .int (nI 3)), (2, .ref (ad kx)), (3, .int (nI nl)), (4, .ref (ad ko)), (5, .int (nI b)), (6, .int (nI mm)), (7, .int (nI 64)), (8, .int (nI (j + 1)))]) [0, 1, 2, 3, 4, 5, 6, 7, 8] rfl ?_
      refine ih σ9 ⟨hC9, fun k hk => (hk9 k (by omega)).trans ((hk8 k (by omega)).trans ((hk7 k (by omega)).trans ((hk6 k (by omega)).trans ((hk5 k (by omega)).trans ((hk4 k (by omega)).trans ((hk3 k (by omega)).trans ((hk2 k (by omega)).trans (hk1 k hk)))))))), ?_⟩
      rw [hv9, hko8, hv1, hv8, sl_wr_take (by rw [dgL_len]; omega), wr_app (by rw [mkL_len j (by rw [hdz]; omega), hdz])]
      show _ = wr (bt σ ko) b (mkL θ 3 mm (sl (bt σ kx) 0 nl) j ++ mkB θ 3 mm (sl (bt σ kx) 0 nl) j)
      unfold mkB; rw [hdz]
    · refine v_icmp_ge (tgt := 105) C eX12_mask_91 (by decide) (fun _ => ?_) (fun h => absurd (ix_le (a := 64) (b := mm - (j * 64)) (rfl : nI 64 = nI 64) (ix_sub (a := mm) (b := j * 64) (rfl : nI mm = nI mm) (ix_mul (a := j) (b := 64) (rfl : nI j = nI j) (rfl : nI 64 = nI 64)) (by omega)) (by omega) (by omega) (by omega)) h)
      refine v_iload C eX12_mask_105 7 rfl ?_
      refine n_callS (av := [.ref (ad 23), .int (nI 0), .ref (ad ko), .int (nI (b + (j * 64))), .int (nI 64)]) (rest := []) C mX12_239 (rs_mv I hN hC8 (kx := 23) (nx := 64) rfl (by decide) hko ho0 (by omega) 0 (b + j * 64) 64 (by omega) (by omega) (by rw [hv8, sl_wr_take (by rw [dgL_len]; omega)]; exact nrw_take nrw_dgL)) rfl (by decide) (by decide) ⟨by decide, by decide⟩ rfl (vi_c (rfl : nI 64 = nI 64) (vi_c (ix_add (a := b) (b := j * 64) (rfl : nI b = nI b) (ix_mul (a := j) (b := 64) (rfl : nI j = nI j) (rfl : nI 64 = nI 64))) (vi_k (vi_c (rfl : (0 : Int32) = nI 0) (vi_k rfl))))) (Nat.le_of_ble_eq_true rfl) eX12_mask_107 (fun r σ9 hp => ?_)
      obtain ⟨rfl, hC9, hk9, hv9⟩ := hp
      refine v_iinc (lv' := [(0, .ref (ad 49)), (1, .int (nI 3)), (2, .ref (ad kx)), (3, .int (nI nl)), (4, .ref (ad ko)), (5, .int (nI b)), (6, .int (nI mm)), (7, .int (nI 64)), (8, .int (nI (j + 1))), (9, .int ((-8 : Int32)))]) C eX12_mask_110 8 rfl (ix_inc _) (by decide) [1, 2, 3, 4, 5, 6, 7, 8, 0, 9] rfl ?_
      refine v_goto (tgt := 9) C eX12_mask_113 (by decide) ?_
      refine v_pick (lv' := [(0, .ref (ad 49)), (1, .int (nI 3)), (2, .ref (ad kx)), (3, .int (nI nl)), (4, .ref (ad ko)), (5, .int (nI b)), (6, .int (nI mm)), (7, .int (nI 64)), (8, .int (nI (j + 1)))]) [0, 1, 2, 3, 4, 5, 6, 7, 8] rfl ?_
      refine ih σ9 ⟨hC9, fun k hk => (hk9 k (by omega)).trans ((hk8 k (by omega)).trans ((hk7 k (by omega)).trans ((hk6 k (by omega)).trans ((hk5 k (by omega)).trans ((hk4 k (by omega)).trans ((hk3 k (by omega)).trans ((hk2 k (by omega)).trans (hk1 k hk)))))))), ?_⟩
      rw [hv9, hko8, hv1, hv8, sl_wr_take (by rw [dgL_len]; omega), wr_app (by rw [mkL_len j (by rw [hdz]; omega), hdz])]
      show _ = wr (bt σ ko) b (mkL θ 3 mm (sl (bt σ kx) 0 nl) j ++ mkB θ 3 mm (sl (bt σ kx) 0 nl) j)
      unfold mkB; rw [hdz, List.take_of_length_le (i := mm - j * 64) (by rw [dgL_len]; omega), List.take_of_length_le (by rw [dgL_len]; omega)]

end M24
