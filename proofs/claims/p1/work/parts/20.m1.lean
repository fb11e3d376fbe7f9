theorem eX12_sponge_0 : vD cX12_sponge 0 (.aload_n 0) 1 1 := ⟨by decide +kernel, rfl⟩
theorem eX12_sponge_1 : vD cX12_sponge 1 (.getfield 177) 3 4 := ⟨by decide +kernel, rfl⟩
theorem eX12_sponge_4 : vD cX12_sponge 4 (.bipush 6) 2 6 := ⟨by decide +kernel, rfl⟩
theorem eX12_sponge_6 : vD cX12_sponge 6 (.if_icmp .le 7) 3 9 := ⟨by decide +kernel, rfl⟩
theorem eX12_sponge_9 : vD cX12_sponge 9 (.iconst 1) 1 10 := ⟨by decide +kernel, rfl⟩
theorem eX12_sponge_10 : vD cX12_sponge 10 (.goto 4) 3 13 := ⟨by decide +kernel, rfl⟩
theorem eX12_sponge_13 : vD cX12_sponge 13 (.iconst 0) 1 14 := ⟨by decide +kernel, rfl⟩
theorem eX12_sponge_14 : vD cX12_sponge 14 .ireturn 1 15 := ⟨by decide +kernel, rfl⟩
theorem eX12_flip_0 : vD cX12_flip 0 (.aload_n 0) 1 1 := ⟨by decide +kernel, rfl⟩
theorem eX12_flip_1 : vD cX12_flip 1 (.getfield 48) 3 4 := ⟨by decide +kernel, rfl⟩
theorem eX12_flip_4 : vD cX12_flip 4 (.iload_n 1) 1 5 := ⟨by decide +kernel, rfl⟩
theorem eX12_flip_5 : vD cX12_flip 5 (.bipush 8) 2 7 := ⟨by decide +kernel, rfl⟩
theorem eX12_flip_7 : vD cX12_flip 7 .idiv 1 8 := ⟨by decide +kernel, rfl⟩
theorem eX12_flip_8 : vD cX12_flip 8 .dup2 1 9 := ⟨by decide +kernel, rfl⟩
theorem eX12_flip_9 : vD cX12_flip 9 .laload 1 10 := ⟨by decide +kernel, rfl⟩
theorem eX12_flip_10 : vD cX12_flip 10 (.iload_n 2) 1 11 := ⟨by decide +kernel, rfl⟩
theorem eX12_flip_11 : vD cX12_flip 11 .i2l 1 12 := ⟨by decide +kernel, rfl⟩
theorem eX12_flip_12 : vD cX12_flip 12 (.ldc2_w 142) 3 15 := ⟨by decide +kernel, rfl⟩
theorem eX12_flip_15 : vD cX12_flip 15 .land 1 16 := ⟨by decide +kernel, rfl⟩
theorem eX12_flip_16 : vD cX12_flip 16 (.bipush 8) 2 18 := ⟨by decide +kernel, rfl⟩
theorem eX12_flip_18 : vD cX12_flip 18 (.iload_n 1) 1 19 := ⟨by decide +kernel, rfl⟩
theorem eX12_flip_19 : vD cX12_flip 19 (.bipush 8) 2 21 := ⟨by decide +kernel, rfl⟩
theorem eX12_flip_21 : vD cX12_flip 21 .irem 1 22 := ⟨by decide +kernel, rfl⟩
theorem eX12_flip_22 : vD cX12_flip 22 .imul 1 23 := ⟨by decide +kernel, rfl⟩
theorem eX12_flip_23 : vD cX12_flip 23 .lshl 1 24 := ⟨by decide +kernel, rfl⟩
theorem eX12_flip_24 : vD cX12_flip 24 .lxor 1 25 := ⟨by decide +kernel, rfl⟩
theorem eX12_flip_25 : vD cX12_flip 25 .lastore 1 26 := ⟨by decide +kernel, rfl⟩
theorem eX12_flip_26 : vD cX12_flip 26 .return_ 1 27 := ⟨by decide +kernel, rfl⟩
theorem eX12_left_0 : vD cX12_left 0 (.iload_n 2) 1 1 := ⟨by decide +kernel, rfl⟩
theorem eX12_left_1 : vD cX12_left 1 (.ifCond .ne 7) 3 4 := ⟨by decide +kernel, rfl⟩
theorem eX12_left_4 : vD cX12_left 4 (.lload_n 0) 1 5 := ⟨by decide +kernel, rfl⟩
theorem eX12_left_5 : vD cX12_left 5 (.goto 13) 3 8 := ⟨by decide +kernel, rfl⟩
theorem eX12_left_8 : vD cX12_left 8 (.lload_n 0) 1 9 := ⟨by decide +kernel, rfl⟩
theorem eX12_left_9 : vD cX12_left 9 (.iload_n 2) 1 10 := ⟨by decide +kernel, rfl⟩
theorem eX12_left_10 : vD cX12_left 10 .lshl 1 11 := ⟨by decide +kernel, rfl⟩
theorem eX12_left_11 : vD cX12_left 11 (.lload_n 0) 1 12 := ⟨by decide +kernel, rfl⟩
theorem eX12_left_12 : vD cX12_left 12 (.bipush 64) 2 14 := ⟨by decide +kernel, rfl⟩
theorem eX12_left_14 : vD cX12_left 14 (.iload_n 2) 1 15 := ⟨by decide +kernel, rfl⟩
theorem eX12_left_15 : vD cX12_left 15 .isub 1 16 := ⟨by decide +kernel, rfl⟩
theorem eX12_left_16 : vD cX12_left 16 .lushr 1 17 := ⟨by decide +kernel, rfl⟩
theorem eX12_left_17 : vD cX12_left 17 .lor 1 18 := ⟨by decide +kernel, rfl⟩
theorem eX12_left_18 : vD cX12_left 18 .lreturn 1 19 := ⟨by decide +kernel, rfl⟩
theorem eX12_right_0 : vD cX12_right 0 (.lload_n 0) 1 1 := ⟨by decide +kernel, rfl⟩
theorem eX12_right_1 : vD cX12_right 1 (.iload_n 2) 1 2 := ⟨by decide +kernel, rfl⟩
theorem eX12_right_2 : vD cX12_right 2 .lushr 1 3 := ⟨by decide +kernel, rfl⟩
theorem eX12_right_3 : vD cX12_right 3 (.lload_n 0) 1 4 := ⟨by decide +kernel, rfl⟩
theorem eX12_right_4 : vD cX12_right 4 (.bipush 64) 2 6 := ⟨by decide +kernel, rfl⟩
theorem eX12_right_6 : vD cX12_right 6 (.iload_n 2) 1 7 := ⟨by decide +kernel, rfl⟩
theorem eX12_right_7 : vD cX12_right 7 .isub 1 8 := ⟨by decide +kernel, rfl⟩
theorem eX12_right_8 : vD cX12_right 8 .lshl 1 9 := ⟨by decide +kernel, rfl⟩
theorem eX12_right_9 : vD cX12_right 9 .lor 1 10 := ⟨by decide +kernel, rfl⟩
theorem eX12_right_10 : vD cX12_right 10 .lreturn 1 11 := ⟨by decide +kernel, rfl⟩
theorem eX12_turn_0 : vD cX12_turn 0 (.iload_n 0) 1 1 := ⟨by decide +kernel, rfl⟩
theorem eX12_turn_1 : vD cX12_turn 1 (.iload_n 1) 1 2 := ⟨by decide +kernel, rfl⟩
theorem eX12_turn_2 : vD cX12_turn 2 .iushr 1 3 := ⟨by decide +kernel, rfl⟩
theorem eX12_turn_3 : vD cX12_turn 3 (.iload_n 0) 1 4 := ⟨by decide +kernel, rfl⟩
theorem eX12_turn_4 : vD cX12_turn 4 (.bipush 32) 2 6 := ⟨by decide +kernel, rfl⟩
theorem eX12_turn_6 : vD cX12_turn 6 (.iload_n 1) 1 7 := ⟨by decide +kernel, rfl⟩
theorem eX12_turn_7 : vD cX12_turn 7 .isub 1 8 := ⟨by decide +kernel, rfl⟩
theorem eX12_turn_8 : vD cX12_turn 8 .ishl 1 9 := ⟨by decide +kernel, rfl⟩
theorem eX12_turn_9 : vD cX12_turn 9 .ior 1 10 := ⟨by decide +kernel, rfl⟩
theorem eX12_turn_10 : vD cX12_turn 10 .ireturn 1 11 := ⟨by decide +kernel, rfl⟩
theorem eX12_move_0 : vD cX12_move 0 (.iconst 0) 1 1 := ⟨by decide +kernel, rfl⟩
theorem eX12_move_1 : vD cX12_move 1 (.istore 5) 2 3 := ⟨by decide +kernel, rfl⟩
theorem eX12_move_3 : vD cX12_move 3 (.iload 5) 2 5 := ⟨by decide +kernel, rfl⟩
theorem eX12_move_5 : vD cX12_move 5 (.iload 4) 2 7 := ⟨by decide +kernel, rfl⟩
theorem eX12_move_7 : vD cX12_move 7 (.if_icmp .ge 21) 3 10 := ⟨by decide +kernel, rfl⟩
theorem eX12_move_10 : vD cX12_move 10 (.aload_n 2) 1 11 := ⟨by decide +kernel, rfl⟩
theorem eX12_move_11 : vD cX12_move 11 (.iload_n 3) 1 12 := ⟨by decide +kernel, rfl⟩
theorem eX12_move_12 : vD cX12_move 12 (.iload 5) 2 14 := ⟨by decide +kernel, rfl⟩
theorem eX12_move_14 : vD cX12_move 14 .iadd 1 15 := ⟨by decide +kernel, rfl⟩
theorem eX12_move_15 : vD cX12_move 15 (.aload_n 0) 1 16 := ⟨by decide +kernel, rfl⟩
theorem eX12_move_16 : vD cX12_move 16 (.iload_n 1) 1 17 := ⟨by decide +kernel, rfl⟩
theorem eX12_move_17 : vD cX12_move 17 (.iload 5) 2 19 := ⟨by decide +kernel, rfl⟩
theorem eX12_move_19 : vD cX12_move 19 .iadd 1 20 := ⟨by decide +kernel, rfl⟩
theorem eX12_move_20 : vD cX12_move 20 .baload 1 21 := ⟨by decide +kernel, rfl⟩
theorem eX12_move_21 : vD cX12_move 21 .bastore 1 22 := ⟨by decide +kernel, rfl⟩
theorem eX12_move_22 : vD cX12_move 22 (.iinc 5 1) 3 25 := ⟨by decide +kernel, rfl⟩
theorem eX12_move_25 : vD cX12_move 25 (.goto (-22)) 3 28 := ⟨by decide +kernel, rfl⟩
theorem eX12_move_28 : vD cX12_move 28 .return_ 1 29 := ⟨by decide +kernel, rfl⟩
theorem eX12_permute_0 : vD cX12_permute 0 (.iconst 0) 1 1 := ⟨by decide +kernel, rfl⟩
theorem eX12_permute_1 : vD cX12_permute 1 (.istore_n 1) 1 2 := ⟨by decide +kernel, rfl⟩
theorem eX12_permute_2 : vD cX12_permute 2 (.iload_n 1) 1 3 := ⟨by decide +kernel, rfl⟩
theorem eX12_permute_3 : vD cX12_permute 3 (.bipush 24) 2 5 := ⟨by decide +kernel, rfl⟩
theorem eX12_permute_5 : vD cX12_permute 5 (.if_icmp .ge 287) 3 8 := ⟨by decide +kernel, rfl⟩
theorem eX12_permute_8 : vD cX12_permute 8 (.iconst 0) 1 9 := ⟨by decide +kernel, rfl⟩
theorem eX12_permute_9 : vD cX12_permute 9 (.istore_n 2) 1 10 := ⟨by decide +kernel, rfl⟩
theorem eX12_permute_10 : vD cX12_permute 10 (.iload_n 2) 1 11 := ⟨by decide +kernel, rfl⟩
theorem eX12_permute_11 : vD cX12_permute 11 (.iconst 5) 1 12 := ⟨by decide +kernel, rfl⟩
theorem eX12_permute_12 : vD cX12_permute 12 (.if_icmp .ge 48) 3 15 := ⟨by decide +kernel, rfl⟩
theorem eX12_permute_15 : vD cX12_permute 15 (.aload_n 0) 1 16 := ⟨by decide +kernel, rfl⟩
theorem eX12_permute_16 : vD cX12_permute 16 (.getfield 54) 3 19 := ⟨by decide +kernel, rfl⟩
theorem eX12_permute_19 : vD cX12_permute 19 (.iload_n 2) 1 20 := ⟨by decide +kernel, rfl⟩
theorem eX12_permute_20 : vD cX12_permute 20 (.lconst 0) 1 21 := ⟨by decide +kernel, rfl⟩
theorem eX12_permute_21 : vD cX12_permute 21 .lastore 1 22 := ⟨by decide +kernel, rfl⟩
theorem eX12_permute_22 : vD cX12_permute 22 (.iconst 0) 1 23 := ⟨by decide +kernel, rfl⟩
theorem eX12_permute_23 : vD cX12_permute 23 (.istore_n 3) 1 24 := ⟨by decide +kernel, rfl⟩
theorem eX12_permute_24 : vD cX12_permute 24 (.iload_n 3) 1 25 := ⟨by decide +kernel, rfl⟩
theorem eX12_permute_25 : vD cX12_permute 25 (.iconst 5) 1 26 := ⟨by decide +kernel, rfl⟩
theorem eX12_permute_26 : vD cX12_permute 26 (.if_icmp .ge 28) 3 29 := ⟨by decide +kernel, rfl⟩
theorem eX12_permute_29 : vD cX12_permute 29 (.aload_n 0) 1 30 := ⟨by decide +kernel, rfl⟩
theorem eX12_permute_30 : vD cX12_permute 30 (.getfield 54) 3 33 := ⟨by decide +kernel, rfl⟩
theorem eX12_permute_33 : vD cX12_permute 33 (.iload_n 2) 1 34 := ⟨by decide +kernel, rfl⟩
theorem eX12_permute_34 : vD cX12_permute 34 .dup2 1 35 := ⟨by decide +kernel, rfl⟩
theorem eX12_permute_35 : vD cX12_permute 35 .laload 1 36 := ⟨by decide +kernel, rfl⟩
theorem eX12_permute_36 : vD cX12_permute 36 (.aload_n 0) 1 37 := ⟨by decide +kernel, rfl⟩
theorem eX12_permute_37 : vD cX12_permute 37 (.getfield 48) 3 40 := ⟨by decide +kernel, rfl⟩
theorem eX12_permute_40 : vD cX12_permute 40 (.iload_n 2) 1 41 := ⟨by decide +kernel, rfl⟩
theorem eX12_permute_41 : vD cX12_permute 41 (.iconst 5) 1 42 := ⟨by decide +kernel, rfl⟩
theorem eX12_permute_42 : vD cX12_permute 42 (.iload_n 3) 1 43 := ⟨by decide +kernel, rfl⟩
theorem eX12_permute_43 : vD cX12_permute 43 .imul 1 44 := ⟨by decide +kernel, rfl⟩
theorem eX12_permute_44 : vD cX12_permute 44 .iadd 1 45 := ⟨by decide +kernel, rfl⟩
theorem eX12_permute_45 : vD cX12_permute 45 .laload 1 46 := ⟨by decide +kernel, rfl⟩
theorem eX12_permute_46 : vD cX12_permute 46 .lxor 1 47 := ⟨by decide +kernel, rfl⟩
theorem eX12_permute_47 : vD cX12_permute 47 .lastore 1 48 := ⟨by decide +kernel, rfl⟩
theorem eX12_permute_48 : vD cX12_permute 48 (.iinc 3 1) 3 51 := ⟨by decide +kernel, rfl⟩
theorem eX12_permute_51 : vD cX12_permute 51 (.goto (-27)) 3 54 := ⟨by decide +kernel, rfl⟩
theorem eX12_permute_54 : vD cX12_permute 54 (.iinc 2 1) 3 57 := ⟨by decide +kernel, rfl⟩
theorem eX12_permute_57 : vD cX12_permute 57 (.goto (-47)) 3 60 := ⟨by decide +kernel, rfl⟩
theorem eX12_permute_60 : vD cX12_permute 60 (.iconst 0) 1 61 := ⟨by decide +kernel, rfl⟩
theorem eX12_permute_61 : vD cX12_permute 61 (.istore_n 2) 1 62 := ⟨by decide +kernel, rfl⟩
theorem eX12_permute_62 : vD cX12_permute 62 (.iload_n 2) 1 63 := ⟨by decide +kernel, rfl⟩
theorem eX12_permute_63 : vD cX12_permute 63 (.iconst 5) 1 64 := ⟨by decide +kernel, rfl⟩
theorem eX12_permute_64 : vD cX12_permute 64 (.if_icmp .ge 60) 3 67 := ⟨by decide +kernel, rfl⟩
theorem eX12_permute_67 : vD cX12_permute 67 (.iconst 0) 1 68 := ⟨by decide +kernel, rfl⟩
theorem eX12_permute_68 : vD cX12_permute 68 (.istore_n 3) 1 69 := ⟨by decide +kernel, rfl⟩
theorem eX12_permute_69 : vD cX12_permute 69 (.iload_n 3) 1 70 := ⟨by decide +kernel, rfl⟩
theorem eX12_permute_70 : vD cX12_permute 70 (.iconst 5) 1 71 := ⟨by decide +kernel, rfl⟩
theorem eX12_permute_71 : vD cX12_permute 71 (.if_icmp .ge 47) 3 74 := ⟨by decide +kernel, rfl⟩
theorem eX12_permute_74 : vD cX12_permute 74 (.aload_n 0) 1 75 := ⟨by decide +kernel, rfl⟩
theorem eX12_permute_75 : vD cX12_permute 75 (.getfield 48) 3 78 := ⟨by decide +kernel, rfl⟩
theorem eX12_permute_78 : vD cX12_permute 78 (.iload_n 2) 1 79 := ⟨by decide +kernel, rfl⟩
theorem eX12_permute_79 : vD cX12_permute 79 (.iconst 5) 1 80 := ⟨by decide +kernel, rfl⟩
theorem eX12_permute_80 : vD cX12_permute 80 (.iload_n 3) 1 81 := ⟨by decide +kernel, rfl⟩
theorem eX12_permute_81 : vD cX12_permute 81 .imul 1 82 := ⟨by decide +kernel, rfl⟩
theorem eX12_permute_82 : vD cX12_permute 82 .iadd 1 83 := ⟨by decide +kernel, rfl⟩
theorem eX12_permute_83 : vD cX12_permute 83 .dup2 1 84 := ⟨by decide +kernel, rfl⟩
theorem eX12_permute_84 : vD cX12_permute 84 .laload 1 85 := ⟨by decide +kernel, rfl⟩
theorem eX12_permute_85 : vD cX12_permute 85 (.aload_n 0) 1 86 := ⟨by decide +kernel, rfl⟩
theorem eX12_permute_86 : vD cX12_permute 86 (.getfield 54) 3 89 := ⟨by decide +kernel, rfl⟩
theorem eX12_permute_89 : vD cX12_permute 89 (.iload_n 2) 1 90 := ⟨by decide +kernel, rfl⟩
theorem eX12_permute_90 : vD cX12_permute 90 (.iconst 4) 1 91 := ⟨by decide +kernel, rfl⟩
theorem eX12_permute_91 : vD cX12_permute 91 .iadd 1 92 := ⟨by decide +kernel, rfl⟩
theorem eX12_permute_92 : vD cX12_permute 92 (.iconst 5) 1 93 := ⟨by decide +kernel, rfl⟩
theorem eX12_permute_93 : vD cX12_permute 93 .irem 1 94 := ⟨by decide +kernel, rfl⟩
theorem eX12_permute_94 : vD cX12_permute 94 .laload 1 95 := ⟨by decide +kernel, rfl⟩
theorem eX12_permute_95 : vD cX12_permute 95 (.aload_n 0) 1 96 := ⟨by decide +kernel, rfl⟩
theorem eX12_permute_96 : vD cX12_permute 96 (.getfield 54) 3 99 := ⟨by decide +kernel, rfl⟩
theorem eX12_permute_99 : vD cX12_permute 99 (.iload_n 2) 1 100 := ⟨by decide +kernel, rfl⟩
theorem eX12_permute_100 : vD cX12_permute 100 (.iconst 1) 1 101 := ⟨by decide +kernel, rfl⟩
theorem eX12_permute_101 : vD cX12_permute 101 .iadd 1 102 := ⟨by decide +kernel, rfl⟩
theorem eX12_permute_102 : vD cX12_permute 102 (.iconst 5) 1 103 := ⟨by decide +kernel, rfl⟩
theorem eX12_permute_103 : vD cX12_permute 103 .irem 1 104 := ⟨by decide +kernel, rfl⟩
theorem eX12_permute_104 : vD cX12_permute 104 .laload 1 105 := ⟨by decide +kernel, rfl⟩
theorem eX12_permute_105 : vD cX12_permute 105 (.iconst 1) 1 106 := ⟨by decide +kernel, rfl⟩
theorem eX12_permute_106 : vD cX12_permute 106 (.invokestatic 215) 3 109 := ⟨by decide +kernel, rfl⟩
theorem eX12_permute_109 : vD cX12_permute 109 .lxor 1 110 := ⟨by decide +kernel, rfl⟩
theorem eX12_permute_110 : vD cX12_permute 110 .lxor 1 111 := ⟨by decide +kernel, rfl⟩
theorem eX12_permute_111 : vD cX12_permute 111 .lastore 1 112 := ⟨by decide +kernel, rfl⟩
theorem eX12_permute_112 : vD cX12_permute 112 (.iinc 3 1) 3 115 := ⟨by decide +kernel, rfl⟩
theorem eX12_permute_115 : vD cX12_permute 115 (.goto (-46)) 3 118 := ⟨by decide +kernel, rfl⟩
theorem eX12_permute_118 : vD cX12_permute 118 (.iinc 2 1) 3 121 := ⟨by decide +kernel, rfl⟩
theorem eX12_permute_121 : vD cX12_permute 121 (.goto (-59)) 3 124 := ⟨by decide +kernel, rfl⟩
theorem eX12_permute_124 : vD cX12_permute 124 (.iconst 0) 1 125 := ⟨by decide +kernel, rfl⟩
theorem eX12_permute_125 : vD cX12_permute 125 (.istore_n 2) 1 126 := ⟨by decide +kernel, rfl⟩
theorem eX12_permute_126 : vD cX12_permute 126 (.iload_n 2) 1 127 := ⟨by decide +kernel, rfl⟩
theorem eX12_permute_127 : vD cX12_permute 127 (.iconst 5) 1 128 := ⟨by decide +kernel, rfl⟩
theorem eX12_permute_128 : vD cX12_permute 128 (.if_icmp .ge 63) 3 131 := ⟨by decide +kernel, rfl⟩
theorem eX12_permute_131 : vD cX12_permute 131 (.iconst 0) 1 132 := ⟨by decide +kernel, rfl⟩
theorem eX12_permute_132 : vD cX12_permute 132 (.istore_n 3) 1 133 := ⟨by decide +kernel, rfl⟩
theorem eX12_permute_133 : vD cX12_permute 133 (.iload_n 3) 1 134 := ⟨by decide +kernel, rfl⟩
theorem eX12_permute_134 : vD cX12_permute 134 (.iconst 5) 1 135 := ⟨by decide +kernel, rfl⟩
theorem eX12_permute_135 : vD cX12_permute 135 (.if_icmp .ge 50) 3 138 := ⟨by decide +kernel, rfl⟩
theorem eX12_permute_138 : vD cX12_permute 138 (.aload_n 0) 1 139 := ⟨by decide +kernel, rfl⟩
theorem eX12_permute_139 : vD cX12_permute 139 (.getfield 51) 3 142 := ⟨by decide +kernel, rfl⟩
theorem eX12_permute_142 : vD cX12_permute 142 (.iload_n 3) 1 143 := ⟨by decide +kernel, rfl⟩
theorem eX12_permute_143 : vD cX12_permute 143 (.iconst 5) 1 144 := ⟨by decide +kernel, rfl⟩
theorem eX12_permute_144 : vD cX12_permute 144 (.iconst 2) 1 145 := ⟨by decide +kernel, rfl⟩
theorem eX12_permute_145 : vD cX12_permute 145 (.iload_n 2) 1 146 := ⟨by decide +kernel, rfl⟩
theorem eX12_permute_146 : vD cX12_permute 146 .imul 1 147 := ⟨by decide +kernel, rfl⟩
theorem eX12_permute_147 : vD cX12_permute 147 (.iconst 3) 1 148 := ⟨by decide +kernel, rfl⟩
theorem eX12_permute_148 : vD cX12_permute 148 (.iload_n 3) 1 149 := ⟨by decide +kernel, rfl⟩
theorem eX12_permute_149 : vD cX12_permute 149 .imul 1 150 := ⟨by decide +kernel, rfl⟩
theorem eX12_permute_150 : vD cX12_permute 150 .iadd 1 151 := ⟨by decide +kernel, rfl⟩
theorem eX12_permute_151 : vD cX12_permute 151 (.iconst 5) 1 152 := ⟨by decide +kernel, rfl⟩
theorem eX12_permute_152 : vD cX12_permute 152 .irem 1 153 := ⟨by decide +kernel, rfl⟩
theorem eX12_permute_153 : vD cX12_permute 153 .imul 1 154 := ⟨by decide +kernel, rfl⟩
theorem eX12_permute_154 : vD cX12_permute 154 .iadd 1 155 := ⟨by decide +kernel, rfl⟩
theorem eX12_permute_155 : vD cX12_permute 155 (.aload_n 0) 1 156 := ⟨by decide +kernel, rfl⟩
theorem eX12_permute_156 : vD cX12_permute 156 (.getfield 48) 3 159 := ⟨by decide +kernel, rfl⟩
theorem eX12_permute_159 : vD cX12_permute 159 (.iload_n 2) 1 160 := ⟨by decide +kernel, rfl⟩
theorem eX12_permute_160 : vD cX12_permute 160 (.iconst 5) 1 161 := ⟨by decide +kernel, rfl⟩
theorem eX12_permute_161 : vD cX12_permute 161 (.iload_n 3) 1 162 := ⟨by decide +kernel, rfl⟩
theorem eX12_permute_162 : vD cX12_permute 162 .imul 1 163 := ⟨by decide +kernel, rfl⟩
theorem eX12_permute_163 : vD cX12_permute 163 .iadd 1 164 := ⟨by decide +kernel, rfl⟩
theorem eX12_permute_164 : vD cX12_permute 164 .laload 1 165 := ⟨by decide +kernel, rfl⟩
theorem eX12_permute_165 : vD cX12_permute 165 (.aload_n 0) 1 166 := ⟨by decide +kernel, rfl⟩
theorem eX12_permute_166 : vD cX12_permute 166 (.getfield 42) 3 169 := ⟨by decide +kernel, rfl⟩
theorem eX12_permute_169 : vD cX12_permute 169 (.iload_n 2) 1 170 := ⟨by decide +kernel, rfl⟩
theorem eX12_permute_170 : vD cX12_permute 170 (.iconst 5) 1 171 := ⟨by decide +kernel, rfl⟩
theorem eX12_permute_171 : vD cX12_permute 171 (.iload_n 3) 1 172 := ⟨by decide +kernel, rfl⟩
theorem eX12_permute_172 : vD cX12_permute 172 .imul 1 173 := ⟨by decide +kernel, rfl⟩
theorem eX12_permute_173 : vD cX12_permute 173 .iadd 1 174 := ⟨by decide +kernel, rfl⟩
theorem eX12_permute_174 : vD cX12_permute 174 .iaload 1 175 := ⟨by decide +kernel, rfl⟩
theorem eX12_permute_175 : vD cX12_permute 175 (.invokestatic 215) 3 178 := ⟨by decide +kernel, rfl⟩
theorem eX12_permute_178 : vD cX12_permute 178 .lastore 1 179 := ⟨by decide +kernel, rfl⟩
theorem eX12_permute_179 : vD cX12_permute 179 (.iinc 3 1) 3 182 := ⟨by decide +kernel, rfl⟩
theorem eX12_permute_182 : vD cX12_permute 182 (.goto (-49)) 3 185 := ⟨by decide +kernel, rfl⟩
theorem eX12_permute_185 : vD cX12_permute 185 (.iinc 2 1) 3 188 := ⟨by decide +kernel, rfl⟩
theorem eX12_permute_188 : vD cX12_permute 188 (.goto (-62)) 3 191 := ⟨by decide +kernel, rfl⟩
theorem eX12_permute_191 : vD cX12_permute 191 (.iconst 0) 1 192 := ⟨by decide +kernel, rfl⟩
theorem eX12_permute_192 : vD cX12_permute 192 (.istore_n 2) 1 193 := ⟨by decide +kernel, rfl⟩
theorem eX12_permute_193 : vD cX12_permute 193 (.iload_n 2) 1 194 := ⟨by decide +kernel, rfl⟩
theorem eX12_permute_194 : vD cX12_permute 194 (.iconst 5) 1 195 := ⟨by decide +kernel, rfl⟩
theorem eX12_permute_195 : vD cX12_permute 195 (.if_icmp .ge 76) 3 198 := ⟨by decide +kernel, rfl⟩
theorem eX12_permute_198 : vD cX12_permute 198 (.iconst 0) 1 199 := ⟨by decide +kernel, rfl⟩
theorem eX12_permute_199 : vD cX12_permute 199 (.istore_n 3) 1 200 := ⟨by decide +kernel, rfl⟩
theorem eX12_permute_200 : vD cX12_permute 200 (.iload_n 3) 1 201 := ⟨by decide +kernel, rfl⟩
theorem eX12_permute_201 : vD cX12_permute 201 (.iconst 5) 1 202 := ⟨by decide +kernel, rfl⟩
theorem eX12_permute_202 : vD cX12_permute 202 (.if_icmp .ge 63) 3 205 := ⟨by decide +kernel, rfl⟩
theorem eX12_permute_205 : vD cX12_permute 205 (.aload_n 0) 1 206 := ⟨by decide +kernel, rfl⟩
theorem eX12_permute_206 : vD cX12_permute 206 (.getfield 48) 3 209 := ⟨by decide +kernel, rfl⟩
theorem eX12_permute_209 : vD cX12_permute 209 (.iload_n 2) 1 210 := ⟨by decide +kernel, rfl⟩
theorem eX12_permute_210 : vD cX12_permute 210 (.iconst 5) 1 211 := ⟨by decide +kernel, rfl⟩
theorem eX12_permute_211 : vD cX12_permute 211 (.iload_n 3) 1 212 := ⟨by decide +kernel, rfl⟩
theorem eX12_permute_212 : vD cX12_permute 212 .imul 1 213 := ⟨by decide +kernel, rfl⟩
theorem eX12_permute_213 : vD cX12_permute 213 .iadd 1 214 := ⟨by decide +kernel, rfl⟩
theorem eX12_permute_214 : vD cX12_permute 214 (.aload_n 0) 1 215 := ⟨by decide +kernel, rfl⟩
theorem eX12_permute_215 : vD cX12_permute 215 (.getfield 51) 3 218 := ⟨by decide +kernel, rfl⟩
theorem eX12_permute_218 : vD cX12_permute 218 (.iload_n 2) 1 219 := ⟨by decide +kernel, rfl⟩
theorem eX12_permute_219 : vD cX12_permute 219 (.iconst 5) 1 220 := ⟨by decide +kernel, rfl⟩
theorem eX12_permute_220 : vD cX12_permute 220 (.iload_n 3) 1 221 := ⟨by decide +kernel, rfl⟩
theorem eX12_permute_221 : vD cX12_permute 221 .imul 1 222 := ⟨by decide +kernel, rfl⟩
theorem eX12_permute_222 : vD cX12_permute 222 .iadd 1 223 := ⟨by decide +kernel, rfl⟩
theorem eX12_permute_223 : vD cX12_permute 223 .laload 1 224 := ⟨by decide +kernel, rfl⟩
theorem eX12_permute_224 : vD cX12_permute 224 (.aload_n 0) 1 225 := ⟨by decide +kernel, rfl⟩
theorem eX12_permute_225 : vD cX12_permute 225 (.getfield 51) 3 228 := ⟨by decide +kernel, rfl⟩
theorem eX12_permute_228 : vD cX12_permute 228 (.iload_n 2) 1 229 := ⟨by decide +kernel, rfl⟩
theorem eX12_permute_229 : vD cX12_permute 229 (.iconst 1) 1 230 := ⟨by decide +kernel, rfl⟩
theorem eX12_permute_230 : vD cX12_permute 230 .iadd 1 231 := ⟨by decide +kernel, rfl⟩
theorem eX12_permute_231 : vD cX12_permute 231 (.iconst 5) 1 232 := ⟨by decide +kernel, rfl⟩
theorem eX12_permute_232 : vD cX12_permute 232 .irem 1 233 := ⟨by decide +kernel, rfl⟩
theorem eX12_permute_233 : vD cX12_permute 233 (.iconst 5) 1 234 := ⟨by decide +kernel, rfl⟩
theorem eX12_permute_234 : vD cX12_permute 234 (.iload_n 3) 1 235 := ⟨by decide +kernel, rfl⟩
theorem eX12_permute_235 : vD cX12_permute 235 .imul 1 236 := ⟨by decide +kernel, rfl⟩
theorem eX12_permute_236 : vD cX12_permute 236 .iadd 1 237 := ⟨by decide +kernel, rfl⟩
theorem eX12_permute_237 : vD cX12_permute 237 .laload 1 238 := ⟨by decide +kernel, rfl⟩
theorem eX12_permute_238 : vD cX12_permute 238 (.ldc2_w 219) 3 241 := ⟨by decide +kernel, rfl⟩
theorem eX12_permute_241 : vD cX12_permute 241 .lxor 1 242 := ⟨by decide +kernel, rfl⟩
theorem eX12_permute_242 : vD cX12_permute 242 (.aload_n 0) 1 243 := ⟨by decide +kernel, rfl⟩
theorem eX12_permute_243 : vD cX12_permute 243 (.getfield 51) 3 246 := ⟨by decide +kernel, rfl⟩
theorem eX12_permute_246 : vD cX12_permute 246 (.iload_n 2) 1 247 := ⟨by decide +kernel, rfl⟩
theorem eX12_permute_247 : vD cX12_permute 247 (.iconst 2) 1 248 := ⟨by decide +kernel, rfl⟩
theorem eX12_permute_248 : vD cX12_permute 248 .iadd 1 249 := ⟨by decide +kernel, rfl⟩
theorem eX12_permute_249 : vD cX12_permute 249 (.iconst 5) 1 250 := ⟨by decide +kernel, rfl⟩
theorem eX12_permute_250 : vD cX12_permute 250 .irem 1 251 := ⟨by decide +kernel, rfl⟩
theorem eX12_permute_251 : vD cX12_permute 251 (.iconst 5) 1 252 := ⟨by decide +kernel, rfl⟩
theorem eX12_permute_252 : vD cX12_permute 252 (.iload_n 3) 1 253 := ⟨by decide +kernel, rfl⟩
theorem eX12_permute_253 : vD cX12_permute 253 .imul 1 254 := ⟨by decide +kernel, rfl⟩
theorem eX12_permute_254 : vD cX12_permute 254 .iadd 1 255 := ⟨by decide +kernel, rfl⟩
theorem eX12_permute_255 : vD cX12_permute 255 .laload 1 256 := ⟨by decide +kernel, rfl⟩
theorem eX12_permute_256 : vD cX12_permute 256 .land 1 257 := ⟨by decide +kernel, rfl⟩
theorem eX12_permute_257 : vD cX12_permute 257 .lxor 1 258 := ⟨by decide +kernel, rfl⟩
theorem eX12_permute_258 : vD cX12_permute 258 .lastore 1 259 := ⟨by decide +kernel, rfl⟩
theorem eX12_permute_259 : vD cX12_permute 259 (.iinc 3 1) 3 262 := ⟨by decide +kernel, rfl⟩
theorem eX12_permute_262 : vD cX12_permute 262 (.goto (-62)) 3 265 := ⟨by decide +kernel, rfl⟩
theorem eX12_permute_265 : vD cX12_permute 265 (.iinc 2 1) 3 268 := ⟨by decide +kernel, rfl⟩
theorem eX12_permute_268 : vD cX12_permute 268 (.goto (-75)) 3 271 := ⟨by decide +kernel, rfl⟩
theorem eX12_permute_271 : vD cX12_permute 271 (.aload_n 0) 1 272 := ⟨by decide +kernel, rfl⟩
theorem eX12_permute_272 : vD cX12_permute 272 (.getfield 48) 3 275 := ⟨by decide +kernel, rfl⟩
theorem eX12_permute_275 : vD cX12_permute 275 (.iconst 0) 1 276 := ⟨by decide +kernel, rfl⟩
theorem eX12_permute_276 : vD cX12_permute 276 .dup2 1 277 := ⟨by decide +kernel, rfl⟩
theorem eX12_permute_277 : vD cX12_permute 277 .laload 1 278 := ⟨by decide +kernel, rfl⟩
theorem eX12_permute_278 : vD cX12_permute 278 (.aload_n 0) 1 279 := ⟨by decide +kernel, rfl⟩
theorem eX12_permute_279 : vD cX12_permute 279 (.getfield 45) 3 282 := ⟨by decide +kernel, rfl⟩
theorem eX12_permute_282 : vD cX12_permute 282 (.iload_n 1) 1 283 := ⟨by decide +kernel, rfl⟩
theorem eX12_permute_283 : vD cX12_permute 283 .laload 1 284 := ⟨by decide +kernel, rfl⟩
theorem eX12_permute_284 : vD cX12_permute 284 .lxor 1 285 := ⟨by decide +kernel, rfl⟩
theorem eX12_permute_285 : vD cX12_permute 285 .lastore 1 286 := ⟨by decide +kernel, rfl⟩
theorem eX12_permute_286 : vD cX12_permute 286 (.iinc 1 1) 3 289 := ⟨by decide +kernel, rfl⟩
theorem eX12_permute_289 : vD cX12_permute 289 (.goto (-287)) 3 292 := ⟨by decide +kernel, rfl⟩
theorem eX12_permute_292 : vD cX12_permute 292 .return_ 1 293 := ⟨by decide +kernel, rfl⟩

/-! THE REFERENCE'S OBJECT (name 49); its arrays are the names 0 .. 48 by their fields, slot's rows 50 .. 57, pairs' rows 58 .. 73 -/
def mO (ad : Nat → Nat) (x : Nat → Int32) (t : Int64) : List Value := [.ref (ad 0), .ref (ad 1), .ref (ad 2), .int (x 3), .int (x 4), .ref (ad 5), .ref (ad 6), .ref (ad 7), .ref (ad 8), .ref (ad 9), .ref (ad 10), .ref (ad 11), .ref (ad 12), .ref (ad 13), .ref (ad 14), .ref (ad 15), .ref (ad 16), .ref (ad 17), .int (x 18), .int (x 19), .int (x 20), .long t, .ref (ad 22), .ref (ad 23), .ref (ad 24), .ref (ad 25), .ref (ad 26), .ref (ad 27), .ref (ad 28), .ref (ad 29), .ref (ad 30), .ref (ad 31), .ref (ad 32), .ref (ad 33), .ref (ad 34), .ref (ad 35), .ref (ad 36), .ref (ad 37), .ref (ad 38), .ref (ad 39), .ref (ad 40), .int (x 41), .int (x 42), .int (x 43), .int (x 44), .int (x 45), .int (x 46), .int (x 47), .int (x 48)]
theorem n_ne {σ : nS} {a k : Nat} {e : va_E} (h : k ≠ a) : va_up σ a e k = σ k := by simp [va_up, h]
theorem n_self {σ : nS} {a : Nat} {e : va_E} : va_up σ a e a = e := by simp [va_up]
/-- one byte into the lanes -/
def sp1 (S : Nat → Int64) (a : Nat) (v : Int32) : Nat → Int64 := vp_updL S (a / 8) (S (a / 8) ^^^ ((v.toInt64 &&& 255) <<< ((nI (8 * (a % 8))).toInt64 &&& 63)))
/-- rotations as the reference has them -/
def rlR (v : Int64) (n : Int32) : Int64 := if n = 0 then v else (v <<< (n.toInt64 &&& 63)) ||| (v.toUInt64 >>> ((64 - n).toInt64.toUInt64 &&& Int64.toUInt64 63)).toInt64
def rrR (v : Int64) (n : Int32) : Int64 := (v.toUInt64 >>> (n.toInt64.toUInt64 &&& Int64.toUInt64 63)).toInt64 ||| (v <<< ((64 - n).toInt64 &&& 63))
def rtR (v n : Int32) : Int32 := (v.toUInt32 >>> (n.toUInt32 &&& Int32.toUInt32 31)).toInt32 ||| (v <<< ((32 - n) &&& 31))
section M1
variable {G : vG} {B : Nat} {l : Launch} {ad : Nat → Nat} {N : Nat}
set_option maxRecDepth 100000 in
set_option maxHeartbeats 4000000 in
theorem c_flip (I : nI1 ad N) (hN : ∀ k, k < 74 → k < N) {σ : nS} {x : Nat → Int32} {t : Int64} {S : Nat → Int64} (h49 : σ 49 = eO 9 (mO ad x t)) (h13 : σ 13 = eJ G 25 S) (a : Nat) (v : Int32) (ha : a < 200) : nOk G B l ad N yX12_flip cX12_flip 3 none 0 0 0 [.ref (ad 49), .int (nI a), .int v] σ (fun r σ' => r = none ∧ σ' = va_up σ 13 (eJ G 25 (sp1 S a v))) := by
  refine vOk.of (by decide +kernel) (Nat.le_of_ble_eq_true rfl) ?_
  intro p e s m args below meth c C
  refine v_eq (lv' := [(0, .ref (ad 49)), (1, .int (nI a)), (2, .int v)]) rfl rfl rfl ?_
  refine v_aload_n C eX12_flip_0 rfl 0 rfl ?_
  refine n_get C I fX12_48_X12 eX12_flip_1 (hN 49 (by decide)) h49 rfl ?_
  refine v_iload_n C eX12_flip_4 rfl 1 rfl ?_
  refine v_bipush (v := (8 : Int32)) C eX12_flip_5 (by decide) ?_
  refine v_idiv C eX12_flip_7 (by decide) ?_
  refine v_dup2_11 C eX12_flip_8 rfl rfl ?_
  refine n_lald C I eX12_flip_9 (hN 13 (by decide)) h13 (a / 8) (ix_div (a := a) (d := 8) (rfl : nI a = nI a) (rfl : (8 : Int32) = nI 8) (by omega) (by omega) (by omega)) (by omega) (by decide) ?_
  refine v_iload_n C eX12_flip_10 rfl 2 rfl ?_
  refine v_i2l C eX12_flip_11 ?_
  refine v_ldc2 (v := (255 : Int64)) C eX12_flip_12 vw_1146 ?_
  refine v_land C eX12_flip_15 ?_
  refine v_bipush (v := (8 : Int32)) C eX12_flip_16 (by decide) ?_
  refine v_iload_n C eX12_flip_18 rfl 1 rfl ?_
  refine v_bipush (v := (8 : Int32)) C eX12_flip_19 (by decide) ?_
  refine v_irem C eX12_flip_21 (by decide) ?_
  refine v_imul C eX12_flip_22 ?_
  refine v_lshl C eX12_flip_23 ?_
  refine v_lxor C eX12_flip_24 ?_
  refine v_topl (fun x1 hx1 => ?_)
  refine n_last C I eX12_flip_25 (hN 13 (by decide)) h13 (a / 8) (ix_div (a := a) (d := 8) (rfl : nI a = nI a) (rfl : (8 : Int32) = nI 8) (by omega) (by omega) (by omega)) (by omega) (by decide) ?_
  exact n_vret C rfl eX12_flip_26 ⟨rfl, by rw [hx1, show (8 : Int32) * (nI a - nI a / 8 * 8) = nI (8 * (a % 8)) from ix_mul rfl (ix_rem rfl rfl (by omega) (by decide) (by decide))]; rfl⟩

set_option maxRecDepth 100000 in
set_option maxHeartbeats 4000000 in
theorem c_sponge (I : nI1 ad N) (hN : ∀ k, k < 74 → k < N) {σ : nS} {x : Nat → Int32} {t : Int64} (h49 : σ 49 = eO 9 (mO ad x t)) : nOk G B l ad N yX12_sponge cX12_sponge 1 (some .boolean) 0 0 0 [.ref (ad 49)] σ (fun r σ' => r = some (.int (if x 18 ≤ 6 then 0 else 1)) ∧ σ' = σ) := by
  refine vOk.of (by decide +kernel) (Nat.le_of_ble_eq_true rfl) ?_
  intro p e s m args below meth c C
  refine v_eq (lv' := [(0, .ref (ad 49))]) rfl rfl rfl ?_
  refine v_aload_n C eX12_sponge_0 rfl 0 rfl ?_
  refine n_get C I fX12_177_X12 eX12_sponge_1 (hN 49 (by decide)) h49 rfl ?_
  refine v_bipush (v := (6 : Int32)) C eX12_sponge_4 (by decide) ?_
  refine v_icmp_le (tgt := 13) C eX12_sponge_6 (by decide) (fun c1 => ?_) (fun c1 => ?_)
  · refine v_iconst (v := (0 : Int32)) C eX12_sponge_13 (by decide) ?_
    exact n_zret C rfl (by decide) eX12_sponge_14 ⟨by rw [if_pos c1], rfl⟩
  · refine v_iconst (v := (1 : Int32)) C eX12_sponge_9 (by decide) ?_
    refine v_goto (tgt := 14) C eX12_sponge_10 (by decide) ?_
    exact n_zret C rfl (by decide) eX12_sponge_14 ⟨by rw [if_neg c1], rfl⟩

set_option maxRecDepth 100000 in
set_option maxHeartbeats 4000000 in
theorem c_left {σ : nS} (v : Int64) (n : Int32) : nOk G B l ad N yX12_left cX12_left 3 (some .long) 0 0 0 [.long v, .int n] σ (fun r σ' => r = some (.long (rlR v n)) ∧ σ' = σ) := by
  refine vOk.of (by decide +kernel) (Nat.le_of_ble_eq_true rfl) ?_
  intro p e s m args below meth c C
  refine v_eq (lv' := [(0, .long v), (2, .int n)]) rfl rfl rfl ?_
  refine v_iload_n C eX12_left_0 rfl 1 rfl ?_
  refine v_if_ne (tgt := 8) C eX12_left_1 (by decide) (fun c1 => ?_) (fun c1 => ?_)
  · refine v_lload_n C eX12_left_8 rfl 0 rfl ?_
    refine v_iload_n C eX12_left_9 rfl 1 rfl ?_
    refine v_lshl C eX12_left_10 ?_
    refine v_lload_n C eX12_left_11 rfl 0 rfl ?_
    refine v_bipush (v := (64 : Int32)) C eX12_left_12 (by decide) ?_
    refine v_iload_n C eX12_left_14 rfl 1 rfl ?_
    refine v_isub C eX12_left_15 ?_
    refine v_lushr C eX12_left_16 ?_
    refine v_lor C eX12_left_17 ?_
    exact n_lret C rfl eX12_left_18 ⟨by rw [rlR, if_neg c1], rfl⟩
  · refine v_lload_n C eX12_left_4 rfl 0 rfl ?_
    refine v_goto (tgt := 18) C eX12_left_5 (by decide) ?_
    exact n_lret C rfl eX12_left_18 ⟨by rw [rlR, if_pos c1], rfl⟩

set_option maxRecDepth 100000 in
set_option maxHeartbeats 4000000 in
theorem c_right {σ : nS} (v : Int64) (n : Int32) : nOk G B l ad N yX12_right cX12_right 3 (some .long) 0 0 0 [.long v, .int n] σ (fun r σ' => r = some (.long (rrR v n)) ∧ σ' = σ) := by
  refine vOk.of (by decide +kernel) (Nat.le_of_ble_eq_true rfl) ?_
  intro p e s m args below meth c C
  refine v_eq (lv' := [(0, .long v), (2, .int n)]) rfl rfl rfl ?_
  refine v_lload_n C eX12_right_0 rfl 0 rfl ?_
  refine v_iload_n C eX12_right_1 rfl 1 rfl ?_
  refine v_lushr C eX12_right_2 ?_
  refine v_lload_n C eX12_right_3 rfl 0 rfl ?_
  refine v_bipush (v := (64 : Int32)) C eX12_right_4 (by decide) ?_
  refine v_iload_n C eX12_right_6 rfl 1 rfl ?_
  refine v_isub C eX12_right_7 ?_
  refine v_lshl C eX12_right_8 ?_
  refine v_lor C eX12_right_9 ?_
  exact n_lret C rfl eX12_right_10 ⟨rfl, rfl⟩

set_option maxRecDepth 100000 in
set_option maxHeartbeats 4000000 in
theorem c_turn {σ : nS} (v n : Int32) : nOk G B l ad N yX12_turn cX12_turn 2 (some .int) 0 0 0 [.int v, .int n] σ (fun r σ' => r = some (.int (rtR v n)) ∧ σ' = σ) := by
  refine vOk.of (by decide +kernel) (Nat.le_of_ble_eq_true rfl) ?_
  intro p e s m args below meth c C
  refine v_eq (lv' := [(0, .int v), (1, .int n)]) rfl rfl rfl ?_
  refine v_iload_n C eX12_turn_0 rfl 0 rfl ?_
  refine v_iload_n C eX12_turn_1 rfl 1 rfl ?_
  refine v_iushr C eX12_turn_2 ?_
  refine v_iload_n C eX12_turn_3 rfl 0 rfl ?_
  refine v_bipush (v := (32 : Int32)) C eX12_turn_4 (by decide) ?_
  refine v_iload_n C eX12_turn_6 rfl 1 rfl ?_
  refine v_isub C eX12_turn_7 ?_
  refine v_ishl C eX12_turn_8 ?_
  refine v_ior C eX12_turn_9 ?_
  exact n_iret C rfl eX12_turn_10 ⟨rfl, rfl⟩

/-- the reference's permutation, turn by turn, as its loops go; T: the turns, K: the constants of the rounds -/
def pmCol (S : Nat → Int64) (a : Nat) (c : Nat → Int64) : Nat → Int64 := itN (fun b c => vp_updL c a (c a ^^^ S (a + 5 * b))) 5 (vp_updL c a 0)
def pmC (S c : Nat → Int64) : Nat → Int64 := itN (fun a c => pmCol S a c) 5 c
def pmTh (c S : Nat → Int64) : Nat → Int64 := itN (fun a S => itN (fun b S => vp_updL S (a + 5 * b) (S (a + 5 * b) ^^^ (c ((a + 4) % 5) ^^^ rlR (c ((a + 1) % 5)) 1))) 5 S) 5 S
def pmRo (T : Nat → Int32) (S o : Nat → Int64) : Nat → Int64 := itN (fun a o => itN (fun b o => vp_updL o (b + 5 * ((2 * a + 3 * b) % 5)) (rlR (S (a + 5 * b)) (T (a + 5 * b)))) 5 o) 5 o
def pmCh (o S : Nat → Int64) : Nat → Int64 := itN (fun a S => itN (fun b S => vp_updL S (a + 5 * b) (o (a + 5 * b) ^^^ ((o ((a + 1) % 5 + 5 * b) ^^^ (-1)) &&& o ((a + 2) % 5 + 5 * b)))) 5 S) 5 S
def pmR (T : Nat → Int32) (K : Nat → Int64) (i : Nat) (q : (Nat → Int64) × (Nat → Int64) × (Nat → Int64)) : (Nat → Int64) × (Nat → Int64) × (Nat → Int64) :=
  let c := pmC q.1 q.2.2
  let S1 := pmTh c q.1
  let o := pmRo T S1 q.2.1
  let S2 := pmCh o S1
  (vp_updL S2 0 (S2 0 ^^^ K i), o, c)

set_option maxRecDepth 100000 in
set_option maxHeartbeats 4000000 in
theorem pm_1 (I : nI1 ad N) (hN : ∀ k, k < 74 → k < N) {σ : nS} {p : Program} {e : Env} {R : Room} {s : State} {m : MethodId} {args : Array Value} {below : List Frame} {meth : Method} {c : Code} {cells slots : Nat} {Q : State → Prop} (C : vC G B p m meth c cX12_permute 4 none s args yX12_permute.cls) {x : Nat → Int32} {t : Int64} {S O D : Nat → Int64} {T : Nat → Int32} {K : Nat → Int64} (h49 : σ 49 = eO 9 (mO ad x t)) (h11 : σ 11 = eI G 25 T) (h12 : σ 12 = eJ G 24 K) {i : Nat} (hi : i < 24) (kk : V G B p l e R s m args below meth c 4 cells slots Q (nW ad N (va_up (va_up (va_up σ 13 (eJ G 25 S)) 14 (eJ G 25 O)) 15 (eJ G 5 (pmC S D)))) 60 [(0, .ref (ad 49)), (1, .int (nI i))] []) : V G B p l e R s m args below meth c 4 cells slots Q (nW ad N (va_up (va_up (va_up σ 13 (eJ G 25 S)) 14 (eJ G 25 O)) 15 (eJ G 5 D))) 8 [(0, .ref (ad 49)), (1, .int (nI i))] [] := by
  refine v_iconst (v := (0 : Int32)) C eX12_permute_8 (by decide) ?_
  refine v_istore_n (lv' := [(0, .ref (ad 49)), (1, .int (nI i)), (2, .int ((0 : Int32)))]) C eX12_permute_9 rfl (by decide) [1, 2, 0] rfl ?_
  refine v_forV (fun a => va_up (va_up (va_up σ 13 (eJ G 25 S)) 14 (eJ G 25 O)) 15 (eJ G 5 (itN (fun a c => pmCol S a c) a D))) (fun a => [(0, .ref (ad 49)), (1, .int (nI i)), (2, .int (nI a))]) 5 ?_ ?_
  · refine v_iload_n C eX12_permute_10 rfl 2 rfl ?_
    refine v_iconst (v := (5 : Int32)) C eX12_permute_11 (by decide) ?_
    refine v_icmp_ge (tgt := 60) C eX12_permute_12 (by decide) (fun _ => ?_) (fun h => absurd (ix_le (a := 5) (b := 5) (rfl : (5 : Int32) = nI 5) (rfl : nI 5 = nI 5) (by omega) (by omega) (by omega)) h)
    refine v_pick (lv' := [(0, .ref (ad 49)), (1, .int (nI i))]) [0, 1] rfl ?_
    exact kk
  · intro a ha iha
    refine v_iload_n C eX12_permute_10 rfl 2 rfl ?_
    refine v_iconst (v := (5 : Int32)) C eX12_permute_11 (by decide) ?_
    refine v_icmp_ge (tgt := 60) C eX12_permute_12 (by decide) (fun h => absurd h (ix_nle (a := 5) (b := a) (rfl : (5 : Int32) = nI 5) (rfl : nI a = nI a) (by omega) (by omega) (by omega))) (fun _ => ?_)
    refine v_aload_n C eX12_permute_15 rfl 0 rfl ?_
    refine n_get C I fX12_54_X12 eX12_permute_16 (hN 49 (by decide)) h49 rfl ?_
    refine v_iload_n C eX12_permute_19 rfl 2 rfl ?_
    refine v_lconst (v := (0 : Int64)) C eX12_permute_20 (by decide) ?_
    refine n_last C I eX12_permute_21 (hN 15 (by decide)) rfl a (rfl : nI a = nI a) (by omega) (by decide) ?_
    refine v_iconst (v := (0 : Int32)) C eX12_permute_22 (by decide) ?_
    refine v_istore_n (lv' := [(0, .ref (ad 49)), (1, .int (nI i)), (2, .int (nI a)), (3, .int ((0 : Int32)))]) C eX12_permute_23 rfl (by decide) [1, 2, 3, 0] rfl ?_
    refine v_eq (w' := nW ad N (va_up (va_up (va_up σ 13 (eJ G 25 S)) 14 (eJ G 25 O)) 15 (eJ G 5 (vp_updL (itN (fun a c => pmCol S a c) a D) a ((0 : Int64)))))) (congrArg (nW ad N) (n_extL [13, 14, 15] ⟨rfl, rfl, rfl, trivial⟩ (fun q h => by simp only [List.mem_cons, List.not_mem_nil, or_false, not_or] at h; simp [va_up, h]))) rfl rfl ?_
    refine v_forV (fun b => va_up (va_up (va_up σ 13 (eJ G 25 S)) 14 (eJ G 25 O)) 15 (eJ G 5 (itN (fun b c => vp_updL c a (c a ^^^ S (a + 5 * b))) b (vp_updL (itN (fun a c => pmCol S a c) a D) a ((0 : Int64)))))) (fun b => [(0, .ref (ad 49)), (1, .int (nI i)), (2, .int (nI a)), (3, .int (nI b))]) 5 ?_ ?_
    · refine v_iload_n C eX12_permute_24 rfl 3 rfl ?_
      refine v_iconst (v := (5 : Int32)) C eX12_permute_25 (by decide) ?_
      refine v_icmp_ge (tgt := 54) C eX12_permute_26 (by decide) (fun _ => ?_) (fun h => absurd (ix_le (a := 5) (b := 5) (rfl : (5 : Int32) = nI 5) (rfl : nI 5 = nI 5) (by omega) (by omega) (by omega)) h)
      refine v_iinc (lv' := [(0, .ref (ad 49)), (1, .int (nI i)), (2, .int (nI (a + 1))), (3, .int (nI 5))]) C eX12_permute_54 2 rfl (ix_inc _) (by decide) [1, 2, 0, 3] rfl ?_
      refine v_goto (tgt := 10) C eX12_permute_57 (by decide) ?_
      refine v_pick (lv' := [(0, .ref (ad 49)), (1, .int (nI i)), (2, .int (nI (a + 1)))]) [0, 1, 2] rfl ?_
      exact iha
    · intro b hb ihb
      refine v_iload_n C eX12_permute_24 rfl 3 rfl ?_
      refine v_iconst (v := (5 : Int32)) C eX12_permute_25 (by decide) ?_
      refine v_icmp_ge (tgt := 54) C eX12_permute_26 (by decide) (fun h => absurd h (ix_nle (a := 5) (b := b) (rfl : (5 : Int32) = nI 5) (rfl : nI b = nI b) (by omega) (by omega) (by omega))) (fun _ => ?_)
      refine v_aload_n C eX12_permute_29 rfl 0 rfl ?_
      refine n_get C I fX12_54_X12 eX12_permute_30 (hN 49 (by decide)) h49 rfl ?_
      refine v_iload_n C eX12_permute_33 rfl 2 rfl ?_
      refine v_dup2_11 C eX12_permute_34 rfl rfl ?_
      refine n_lald C I eX12_permute_35 (hN 15 (by decide)) rfl a (rfl : nI a = nI a) (by omega) (by decide) ?_
      refine v_aload_n C eX12_permute_36 rfl 0 rfl ?_
      refine n_get C I fX12_48_X12 eX12_permute_37 (hN 49 (by decide)) h49 rfl ?_
      refine v_iload_n C eX12_permute_40 rfl 2 rfl ?_
      refine v_iconst (v := (5 : Int32)) C eX12_permute_41 (by decide) ?_
      refine v_iload_n C eX12_permute_42 rfl 3 rfl ?_
      refine v_imul C eX12_permute_43 ?_
      refine v_iadd C eX12_permute_44 ?_
      refine n_lald C I eX12_permute_45 (hN 13 (by decide)) rfl (a + (5 * b)) (ix_add (a := a) (b := 5 * b) (rfl : nI a = nI a) (ix_mul (a := 5) (b := b) (rfl : (5 : Int32) = nI 5) (rfl : nI b = nI b))) (by omega) (by decide) ?_
      refine v_lxor C eX12_permute_46 ?_
      refine n_last C I eX12_permute_47 (hN 15 (by decide)) rfl a (rfl : nI a = nI a) (by omega) (by decide) ?_
      refine v_iinc (lv' := [(0, .ref (ad 49)), (1, .int (nI i)), (2, .int (nI a)), (3, .int (nI (b + 1)))]) C eX12_permute_48 3 rfl (ix_inc _) (by decide) [1, 2, 3, 0] rfl ?_
      refine v_goto (tgt := 24) C eX12_permute_51 (by decide) ?_
      refine v_eq (w' := nW ad N (va_up (va_up (va_up σ 13 (eJ G 25 S)) 14 (eJ G 25 O)) 15 (eJ G 5 (vp_updL (itN (fun b c => vp_updL c a (c a ^^^ S (a + 5 * b))) b (vp_updL (itN (fun a c => pmCol S a c) a D) a ((0 : Int64)))) a (((itN (fun b c => vp_updL c a (c a ^^^ S (a + 5 * b))) b (vp_updL (itN (fun a c => pmCol S a c) a D) a ((0 : Int64)))) a) ^^^ (S (a + (5 * b)))))))) (congrArg (nW ad N) (n_extL [13, 14, 15] ⟨rfl, rfl, rfl, trivial⟩ (fun q h => by simp only [List.mem_cons, List.not_mem_nil, or_false, not_or] at h; simp [va_up, h]))) rfl rfl ?_
      exact ihb

set_option maxRecDepth 100000 in
set_option maxHeartbeats 4000000 in
theorem pm_2 (I : nI1 ad N) (hN : ∀ k, k < 74 → k < N) {σ : nS} {p : Program} {e : Env} {R : Room} {s : State} {m : MethodId} {args : Array Value} {below : List Frame} {meth : Method} {c : Code} {cells slots : Nat} {Q : State → Prop} (C : vC G B p m meth c cX12_permute 4 none s args yX12_permute.cls) {x : Nat → Int32} {t : Int64} {S O D : Nat → Int64} {T : Nat → Int32} {K : Nat → Int64} (h49 : σ 49 = eO 9 (mO ad x t)) (h11 : σ 11 = eI G 25 T) (h12 : σ 12 = eJ G 24 K) {i : Nat} (hi : i < 24) {d1 mc1 ms1 : Nat} (hR : R = vRm d1 mc1 ms1) (hdd : 0 + 1 ≤ d1) (hrc : cells + 0 ≤ mc1) (hrs : slots + 0 ≤ ms1) (kk : V G B p l e R s m args below meth c 4 cells slots Q (nW ad N (va_up (va_up (va_up σ 13 (eJ G 25 (pmTh D S))) 14 (eJ G 25 O)) 15 (eJ G 5 D))) 124 [(0, .ref (ad 49)), (1, .int (nI i))] []) : V G B p l e R s m args below meth c 4 cells slots Q (nW ad N (va_up (va_up (va_up σ 13 (eJ G 25 S)) 14 (eJ G 25 O)) 15 (eJ G 5 D))) 60 [(0, .ref (ad 49)), (1, .int (nI i))] [] := by
  refine v_iconst (v := (0 : Int32)) C eX12_permute_60 (by decide) ?_
  refine v_istore_n (lv' := [(0, .ref (ad 49)), (1, .int (nI i)), (2, .int ((0 : Int32)))]) C eX12_permute_61 rfl (by decide) [1, 2, 0] rfl ?_
  refine v_forV (fun a => va_up (va_up (va_up σ 13 (eJ G 25 (itN (fun a S => itN (fun b S => vp_updL S (a + 5 * b) (S (a + 5 * b) ^^^ (D ((a + 4) % 5) ^^^ rlR (D ((a + 1) % 5)) 1))) 5 S) a S))) 14 (eJ G 25 O)) 15 (eJ G 5 D)) (fun a => [(0, .ref (ad 49)), (1, .int (nI i)), (2, .int (nI a))]) 5 ?_ ?_
  · refine v_iload_n C eX12_permute_62 rfl 2 rfl ?_
    refine v_iconst (v := (5 : Int32)) C eX12_permute_63 (by decide) ?_
    refine v_icmp_ge (tgt := 124) C eX12_permute_64 (by decide) (fun _ => ?_) (fun h => absurd (ix_le (a := 5) (b := 5) (rfl : (5 : Int32) = nI 5) (rfl : nI 5 = nI 5) (by omega) (by omega) (by omega)) h)
    refine v_pick (lv' := [(0, .ref (ad 49)), (1, .int (nI i))]) [0, 1] rfl ?_
    exact kk
  · intro a ha iha
    refine v_iload_n C eX12_permute_62 rfl 2 rfl ?_
    refine v_iconst (v := (5 : Int32)) C eX12_permute_63 (by decide) ?_
    refine v_icmp_ge (tgt := 124) C eX12_permute_64 (by decide) (fun h => absurd h (ix_nle (a := 5) (b := a) (rfl : (5 : Int32) = nI 5) (rfl : nI a = nI a) (by omega) (by omega) (by omega))) (fun _ => ?_)
    refine v_iconst (v := (0 : Int32)) C eX12_permute_67 (by decide) ?_
    refine v_istore_n (lv' := [(0, .ref (ad 49)), (1, .int (nI i)), (2, .int (nI a)), (3, .int ((0 : Int32)))]) C eX12_permute_68 rfl (by decide) [1, 2, 3, 0] rfl ?_
    refine v_forV (fun b => va_up (va_up (va_up σ 13 (eJ G 25 (itN (fun b S => vp_updL S (a + 5 * b) (S (a + 5 * b) ^^^ (D ((a + 4) % 5) ^^^ rlR (D ((a + 1) % 5)) 1))) b (itN (fun a S => itN (fun b S => vp_updL S (a + 5 * b) (S (a + 5 * b) ^^^ (D ((a + 4) % 5) ^^^ rlR (D ((a + 1) % 5)) 1))) 5 S) a S)))) 14 (eJ G 25 O)) 15 (eJ G 5 D)) (fun b => [(0, .ref (ad 49)), (1, .int (nI i)), (2, .int (nI a)), (3, .int (nI b))]) 5 ?_ ?_
    · refine v_iload_n C eX12_permute_69 rfl 3 rfl ?_
      refine v_iconst (v := (5 : Int32)) C eX12_permute_70 (by decide) ?_
      refine v_icmp_ge (tgt := 118) C eX12_permute_71 (by decide) (fun _ => ?_) (fun h => absurd (ix_le (a := 5) (b := 5) (rfl : (5 : Int32) = nI 5) (rfl : nI 5 = nI 5) (by omega) (by omega) (by omega)) h)
      refine v_iinc (lv' := [(0, .ref (ad 49)), (1, .int (nI i)), (2, .int (nI (a + 1))), (3, .int (nI 5))]) C eX12_permute_118 2 rfl (ix_inc _) (by decide) [1, 2, 0, 3] rfl ?_
      refine v_goto (tgt := 62) C eX12_permute_121 (by decide) ?_
      refine v_pick (lv' := [(0, .ref (ad 49)), (1, .int (nI i)), (2, .int (nI (a + 1)))]) [0, 1, 2] rfl ?_
      exact iha
    · intro b hb ihb
      refine v_iload_n C eX12_permute_69 rfl 3 rfl ?_
      refine v_iconst (v := (5 : Int32)) C eX12_permute_70 (by decide) ?_
      refine v_icmp_ge (tgt := 118) C eX12_permute_71 (by decide) (fun h => absurd h (ix_nle (a := 5) (b := b) (rfl : (5 : Int32) = nI 5) (rfl : nI b = nI b) (by omega) (by omega) (by omega))) (fun _ => ?_)
      refine v_aload_n C eX12_permute_74 rfl 0 rfl ?_
      refine n_get C I fX12_48_X12 eX12_permute_75 (hN 49 (by decide)) h49 rfl ?_
      refine v_iload_n C eX12_permute_78 rfl 2 rfl ?_
      refine v_iconst (v := (5 : Int32)) C eX12_permute_79 (by decide) ?_
      refine v_iload_n C eX12_permute_80 rfl 3 rfl ?_
      refine v_imul C eX12_permute_81 ?_
      refine v_iadd C eX12_permute_82 ?_
      refine v_dup2_11 C eX12_permute_83 rfl rfl ?_
      refine n_lald C I eX12_permute_84 (hN 13 (by decide)) rfl (a + (5 * b)) (ix_add (a := a) (b := 5 * b) (rfl : nI a = nI a) (ix_mul (a := 5) (b := b) (rfl : (5 : Int32) = nI 5) (rfl : nI b = nI b))) (by omega) (by decide) ?_
      refine v_aload_n C eX12_permute_85 rfl 0 rfl ?_
      refine n_get C I fX12_54_X12 eX12_permute_86 (hN 49 (by decide)) h49 rfl ?_
      refine v_iload_n C eX12_permute_89 rfl 2 rfl ?_
      refine v_iconst (v := (4 : Int32)) C eX12_permute_90 (by decide) ?_
      refine v_iadd C eX12_permute_91 ?_
      refine v_iconst (v := (5 : Int32)) C eX12_permute_92 (by decide) ?_
      refine v_irem C eX12_permute_93 (by decide) ?_
      refine n_lald C I eX12_permute_94 (hN 15 (by decide)) rfl ((a + 4) % 5) (ix_rem (a := a + 4) (d := 5) (ix_add (a := a) (b := 4) (rfl : nI a = nI a) (rfl : (4 : Int32) = nI 4)) (rfl : (5 : Int32) = nI 5) (by omega) (by omega) (by omega)) (by omega) (by decide) ?_
      refine v_aload_n C eX12_permute_95 rfl 0 rfl ?_
      refine n_get C I fX12_54_X12 eX12_permute_96 (hN 49 (by decide)) h49 rfl ?_
      refine v_iload_n C eX12_permute_99 rfl 2 rfl ?_
      refine v_iconst (v := (1 : Int32)) C eX12_permute_100 (by decide) ?_
      refine v_iadd C eX12_permute_101 ?_
      refine v_iconst (v := (5 : Int32)) C eX12_permute_102 (by decide) ?_
      refine v_irem C eX12_permute_103 (by decide) ?_
      refine n_lald C I eX12_permute_104 (hN 15 (by decide)) rfl ((a + 1) % 5) (ix_rem (a := a + 1) (d := 5) (ix_add (a := a) (b := 1) (rfl : nI a = nI a) (rfl : (1 : Int32) = nI 1)) (rfl : (5 : Int32) = nI 5) (by omega) (by omega) (by omega)) (by omega) (by decide) ?_
      refine v_iconst (v := (1 : Int32)) C eX12_permute_105 (by decide) ?_
      refine n_callS (av := [.long (D ((a + 1) % 5)), .int ((1 : Int32))]) (rest := [.long (D ((a + 4) % 5)), .long ((itN (fun b S => vp_updL S (a + 5 * b) (S (a + 5 * b) ^^^ (D ((a + 4) % 5) ^^^ rlR (D ((a + 1) % 5)) 1))) b (itN (fun a S => itN (fun b S => vp_updL S (a + 5 * b) (S (a + 5 * b) ^^^ (D ((a + 4) % 5) ^^^ rlR (D ((a + 1) % 5)) 1))) 5 S) a S)) (a + (5 * b))), .int ((nI a) + (((5 : Int32)) * (nI b))), .ref (ad 13)]) C mX12_215 (c_left (D ((a + 1) % 5)) ((1 : Int32))) hR hdd (by decide) ⟨hrc, hrs⟩ rfl rfl (Nat.le_of_ble_eq_true rfl) eX12_permute_106 (fun r σ' hp => ?_)
      obtain ⟨rfl, rfl⟩ := hp
      refine v_lxor C eX12_permute_109 ?_
      refine v_lxor C eX12_permute_110 ?_
      refine n_last C I eX12_permute_111 (hN 13 (by decide)) rfl (a + (5 * b)) (ix_add (a := a) (b := 5 * b) (rfl : nI a = nI a) (ix_mul (a := 5) (b := b) (rfl : (5 : Int32) = nI 5) (rfl : nI b = nI b))) (by omega) (by decide) ?_
      refine v_iinc (lv' := [(0, .ref (ad 49)), (1, .int (nI i)), (2, .int (nI a)), (3, .int (nI (b + 1)))]) C eX12_permute_112 3 rfl (ix_inc _) (by decide) [1, 2, 3, 0] rfl ?_
      refine v_goto (tgt := 69) C eX12_permute_115 (by decide) ?_
      refine v_eq (w' := nW ad N (va_up (va_up (va_up σ 13 (eJ G 25 (vp_updL (itN (fun b S => vp_updL S (a + 5 * b) (S (a + 5 * b) ^^^ (D ((a + 4) % 5) ^^^ rlR (D ((a + 1) % 5)) 1))) b (itN (fun a S => itN (fun b S => vp_updL S (a + 5 * b) (S (a + 5 * b) ^^^ (D ((a + 4) % 5) ^^^ rlR (D ((a + 1) % 5)) 1))) 5 S) a S)) (a + (5 * b)) (((itN (fun b S => vp_updL S (a + 5 * b) (S (a + 5 * b) ^^^ (D ((a + 4) % 5) ^^^ rlR (D ((a + 1) % 5)) 1))) b (itN (fun a S => itN (fun b S => vp_updL S (a + 5 * b) (S (a + 5 * b) ^^^ (D ((a + 4) % 5) ^^^ rlR (D ((a + 1) % 5)) 1))) 5 S) a S)) (a + (5 * b))) ^^^ ((D ((a + 4) % 5)) ^^^ (rlR (D ((a + 1) % 5)) ((1 : Int32)))))))) 14 (eJ G 25 O)) 15 (eJ G 5 D))) (congrArg (nW ad N) (n_extL [13, 14, 15] ⟨rfl, rfl, rfl, trivial⟩ (fun q h => by simp only [List.mem_cons, List.not_mem_nil, or_false, not_or] at h; simp [va_up, h]))) rfl rfl ?_
      exact ihb

set_option maxRecDepth 100000 in
set_option maxHeartbeats 4000000 in
theorem pm_3 (I : nI1 ad N) (hN : ∀ k, k < 74 → k < N) {σ : nS} {p : Program} {e : Env} {R : Room} {s : State} {m : MethodId} {args : Array Value} {below : List Frame} {meth : Method} {c : Code} {cells slots : Nat} {Q : State → Prop} (C : vC G B p m meth c cX12_permute 4 none s args yX12_permute.cls) {x : Nat → Int32} {t : Int64} {S O D : Nat → Int64} {T : Nat → Int32} {K : Nat → Int64} (h49 : σ 49 = eO 9 (mO ad x t)) (h11 : σ 11 = eI G 25 T) (h12 : σ 12 = eJ G 24 K) {i : Nat} (hi : i < 24) {d1 mc1 ms1 : Nat} (hR : R = vRm d1 mc1 ms1) (hdd : 0 + 1 ≤ d1) (hrc : cells + 0 ≤ mc1) (hrs : slots + 0 ≤ ms1) (kk : V G B p l e R s m args below meth c 4 cells slots Q (nW ad N (va_up (va_up (va_up σ 13 (eJ G 25 S)) 14 (eJ G 25 (pmRo T S O))) 15 (eJ G 5 D))) 191 [(0, .ref (ad 49)), (1, .int (nI i))] []) : V G B p l e R s m args below meth c 4 cells slots Q (nW ad N (va_up (va_up (va_up σ 13 (eJ G 25 S)) 14 (eJ G 25 O)) 15 (eJ G 5 D))) 124 [(0, .ref (ad 49)), (1, .int (nI i))] [] := by
  refine v_iconst (v := (0 : Int32)) C eX12_permute_124 (by decide) ?_
  refine v_istore_n (lv' := [(0, .ref (ad 49)), (1, .int (nI i)), (2, .int ((0 : Int32)))]) C eX12_permute_125 rfl (by decide) [1, 2, 0] rfl ?_
  refine v_forV (fun a => va_up (va_up (va_up σ 13 (eJ G 25 S)) 14 (eJ G 25 (itN (fun a o => itN (fun b o => vp_updL o (b + 5 * ((2 * a + 3 * b) % 5)) (rlR (S (a + 5 * b)) (T (a + 5 * b)))) 5 o) a O))) 15 (eJ G 5 D)) (fun a => [(0, .ref (ad 49)), (1, .int (nI i)), (2, .int (nI a))]) 5 ?_ ?_
  · refine v_iload_n C eX12_permute_126 rfl 2 rfl ?_
    refine v_iconst (v := (5 : Int32)) C eX12_permute_127 (by decide) ?_
    refine v_icmp_ge (tgt := 191) C eX12_permute_128 (by decide) (fun _ => ?_) (fun h => absurd (ix_le (a := 5) (b := 5) (rfl : (5 : Int32) = nI 5) (rfl : nI 5 = nI 5) (by omega) (by omega) (by omega)) h)
    refine v_pick (lv' := [(0, .ref (ad 49)), (1, .int (nI i))]) [0, 1] rfl ?_
    exact kk
  · intro a ha iha
    refine v_iload_n C eX12_permute_126 rfl 2 rfl ?_
    refine v_iconst (v := (5 : Int32)) C eX12_permute_127 (by decide) ?_
    refine v_icmp_ge (tgt := 191) C eX12_permute_128 (by decide) (fun h => absurd h (ix_nle (a := 5) (b := a) (rfl : (5 : Int32) = nI 5) (rfl : nI a = nI a) (by omega) (by omega) (by omega))) (fun _ => ?_)
    refine v_iconst (v := (0 : Int32)) C eX12_permute_131 (by decide) ?_
    refine v_istore_n (lv' := [(0, .ref (ad 49)), (1, .int (nI i)), (2, .int (nI a)), (3, .int ((0 : Int32)))]) C eX12_permute_132 rfl (by decide) [1, 2, 3, 0] rfl ?_
    refine v_forV (fun b => va_up (va_up (va_up σ 13 (eJ G 25 S)) 14 (eJ G 25 (itN (fun b o => vp_updL o (b + 5 * ((2 * a + 3 * b) % 5)) (rlR (S (a + 5 * b)) (T (a + 5 * b)))) b (itN (fun a o => itN (fun b o => vp_updL o (b + 5 * ((2 * a + 3 * b) % 5)) (rlR (S (a + 5 * b)) (T (a + 5 * b)))) 5 o) a O)))) 15 (eJ G 5 D)) (fun b => [(0, .ref (ad 49)), (1, .int (nI i)), (2, .int (nI a)), (3, .int (nI b))]) 5 ?_ ?_
    · refine v_iload_n C eX12_permute_133 rfl 3 rfl ?_
      refine v_iconst (v := (5 : Int32)) C eX12_permute_134 (by decide) ?_
      refine v_icmp_ge (tgt := 185) C eX12_permute_135 (by decide) (fun _ => ?_) (fun h => absurd (ix_le (a := 5) (b := 5) (rfl : (5 : Int32) = nI 5) (rfl : nI 5 = nI 5) (by omega) (by omega) (by omega)) h)
      refine v_iinc (lv' := [(0, .ref (ad 49)), (1, .int (nI i)), (2, .int (nI (a + 1))), (3, .int (nI 5))]) C eX12_permute_185 2 rfl (ix_inc _) (by decide) [1, 2, 0, 3] rfl ?_
      refine v_goto (tgt := 126) C eX12_permute_188 (by decide) ?_
      refine v_pick (lv' := [(0, .ref (ad 49)), (1, .int (nI i)), (2, .int (nI (a + 1)))]) [0, 1, 2] rfl ?_
      exact iha
    · intro b hb ihb
      refine v_iload_n C eX12_permute_133 rfl 3 rfl ?_
      refine v_iconst (v := (5 : Int32)) C eX12_permute_134 (by decide) ?_
      refine v_icmp_ge (tgt := 185) C eX12_permute_135 (by decide) (fun h => absurd h (ix_nle (a := 5) (b := b) (rfl : (5 : Int32) = nI 5) (rfl : nI b = nI b) (by omega) (by omega) (by omega))) (fun _ => ?_)
      refine v_aload_n C eX12_permute_138 rfl 0 rfl ?_
      refine n_get C I fX12_51_X12 eX12_permute_139 (hN 49 (by decide)) h49 rfl ?_
      refine v_iload_n C eX12_permute_142 rfl 3 rfl ?_
      refine v_iconst (v := (5 : Int32)) C eX12_permute_143 (by decide) ?_
      refine v_iconst (v := (2 : Int32)) C eX12_permute_144 (by decide) ?_
      refine v_iload_n C eX12_permute_145 rfl 2 rfl ?_
      refine v_imul C eX12_permute_146 ?_
      refine v_iconst (v := (3 : Int32)) C eX12_permute_147 (by decide) ?_
      refine v_iload_n C eX12_permute_148 rfl 3 rfl ?_
      refine v_imul C eX12_permute_149 ?_
      refine v_iadd C eX12_permute_150 ?_
      refine v_iconst (v := (5 : Int32)) C eX12_permute_151 (by decide) ?_
      refine v_irem C eX12_permute_152 (by decide) ?_
      refine v_imul C eX12_permute_153 ?_
      refine v_iadd C eX12_permute_154 ?_
      refine v_aload_n C eX12_permute_155 rfl 0 rfl ?_
      refine n_get C I fX12_48_X12 eX12_permute_156 (hN 49 (by decide)) h49 rfl ?_
      refine v_iload_n C eX12_permute_159 rfl 2 rfl ?_
      refine v_iconst (v := (5 : Int32)) C eX12_permute_160 (by decide) ?_
      refine v_iload_n C eX12_permute_161 rfl 3 rfl ?_
      refine v_imul C eX12_permute_162 ?_
      refine v_iadd C eX12_permute_163 ?_
      refine n_lald C I eX12_permute_164 (hN 13 (by decide)) rfl (a + (5 * b)) (ix_add (a := a) (b := 5 * b) (rfl : nI a = nI a) (ix_mul (a := 5) (b := b) (rfl : (5 : Int32) = nI 5) (rfl : nI b = nI b))) (by omega) (by decide) ?_
      refine v_aload_n C eX12_permute_165 rfl 0 rfl ?_
      refine n_get C I fX12_42_X12 eX12_permute_166 (hN 49 (by decide)) h49 rfl ?_
      refine v_iload_n C eX12_permute_169 rfl 2 rfl ?_
      refine v_iconst (v := (5 : Int32)) C eX12_permute_170 (by decide) ?_
      refine v_iload_n C eX12_permute_171 rfl 3 rfl ?_
      refine v_imul C eX12_permute_172 ?_
      refine v_iadd C eX12_permute_173 ?_
      refine n_iald C I eX12_permute_174 (hN 11 (by decide)) h11 (a + (5 * b)) (ix_add (a := a) (b := 5 * b) (rfl : nI a = nI a) (ix_mul (a := 5) (b := b) (rfl : (5 : Int32) = nI 5) (rfl : nI b = nI b))) (by omega) (by decide) ?_
      refine n_callS (av := [.long (S (a + (5 * b))), .int (T (a + (5 * b)))]) (rest := [.int ((nI b) + (((5 : Int32)) * (((((2 : Int32)) * (nI a)) + (((3 : Int32)) * (nI b))) - ((((2 : Int32)) * (nI a)) + (((3 : Int32)) * (nI b))) / ((5 : Int32)) * ((5 : Int32))))), .ref (ad 14)]) C mX12_215 (c_left (S (a + (5 * b))) (T (a + (5 * b)))) hR hdd (by decide) ⟨hrc, hrs⟩ rfl rfl (Nat.le_of_ble_eq_true rfl) eX12_permute_175 (fun r σ' hp => ?_)
      obtain ⟨rfl, rfl⟩ := hp
      refine n_last C I eX12_permute_178 (hN 14 (by decide)) rfl (b + (5 * (((2 * a) + (3 * b)) % 5))) (ix_add (a := b) (b := 5 * (((2 * a) + (3 * b)) % 5)) (rfl : nI b = nI b) (ix_mul (a := 5) (b := ((2 * a) + (3 * b)) % 5) (rfl : (5 : Int32) = nI 5) (ix_rem (a := (2 * a) + (3 * b)) (d := 5) (ix_add (a := 2 * a) (b := 3 * b) (ix_mul (a := 2) (b := a) (rfl : (2 : Int32) = nI 2) (rfl : nI a = nI a)) (ix_mul (a := 3) (b := b) (rfl : (3 : Int32) = nI 3) (rfl : nI b = nI b))) (rfl : (5 : Int32) = nI 5) (by omega) (by omega) (by omega)))) (by omega) (by decide) ?_
      refine v_iinc (lv' := [(0, .ref (ad 49)), (1, .int (nI i)), (2, .int (nI a)), (3, .int (nI (b + 1)))]) C eX12_permute_179 3 rfl (ix_inc _) (by decide) [1, 2, 3, 0] rfl ?_
      refine v_goto (tgt := 133) C eX12_permute_182 (by decide) ?_
      refine v_eq (w' := nW ad N (va_up (va_up (va_up σ 13 (eJ G 25 S)) 14 (eJ G 25 (vp_updL (itN (fun b o => vp_updL o (b + 5 * ((2 * a + 3 * b) % 5)) (rlR (S (a + 5 * b)) (T (a + 5 * b)))) b (itN (fun a o => itN (fun b o => vp_updL o (b + 5 * ((2 * a + 3 * b) % 5)) (rlR (S (a + 5 * b)) (T (a + 5 * b)))) 5 o) a O)) (b + (5 * (((2 * a) + (3 * b)) % 5))) (rlR (S (a + (5 * b))) (T (a + (5 * b))))))) 15 (eJ G 5 D))) (congrArg (nW ad N) (n_extL [13, 14, 15] ⟨rfl, rfl, rfl, trivial⟩ (fun q h => by simp only [List.mem_cons, List.not_mem_nil, or_false, not_or] at h; simp [va_up, h]))) rfl rfl ?_
      exact ihb

set_option maxRecDepth 100000 in
set_option maxHeartbeats 4000000 in
theorem pm_4 (I : nI1 ad N) (hN : ∀ k, k < 74 → k < N) {σ : nS} {p : Program} {e : Env} {R : Room} {s : State} {m : MethodId} {args : Array Value} {below : List Frame} {meth : Method} {c : Code} {cells slots : Nat} {Q : State → Prop} (C : vC G B p m meth c cX12_permute 4 none s args yX12_permute.cls) {x : Nat → Int32} {t : Int64} {S O D : Nat → Int64} {T : Nat → Int32} {K : Nat → Int64} (h49 : σ 49 = eO 9 (mO ad x t)) (h11 : σ 11 = eI G 25 T) (h12 : σ 12 = eJ G 24 K) {i : Nat} (hi : i < 24) (kk : V G B p l e R s m args below meth c 4 cells slots Q (nW ad N (va_up (va_up (va_up σ 13 (eJ G 25 (pmCh O S))) 14 (eJ G 25 O)) 15 (eJ G 5 D))) 271 [(0, .ref (ad 49)), (1, .int (nI i))] []) : V G B p l e R s m args below meth c 4 cells slots Q (nW ad N (va_up (va_up (va_up σ 13 (eJ G 25 S)) 14 (eJ G 25 O)) 15 (eJ G 5 D))) 191 [(0, .ref (ad 49)), (1, .int (nI i))] [] := by
  refine v_iconst (v := (0 : Int32)) C eX12_permute_191 (by decide) ?_
  refine v_istore_n (lv' := [(0, .ref (ad 49)), (1, .int (nI i)), (2, .int ((0 : Int32)))]) C eX12_permute_192 rfl (by decide) [1, 2, 0] rfl ?_
  refine v_forV (fun a => va_up (va_up (va_up σ 13 (eJ G 25 (itN (fun a S => itN (fun b S => vp_updL S (a + 5 * b) (O (a + 5 * b) ^^^ ((O ((a + 1) % 5 + 5 * b) ^^^ (-1)) &&& O ((a + 2) % 5 + 5 * b)))) 5 S) a S))) 14 (eJ G 25 O)) 15 (eJ G 5 D)) (fun a => [(0, .ref (ad 49)), (1, .int (nI i)), (2, .int (nI a))]) 5 ?_ ?_
  · refine v_iload_n C eX12_permute_193 rfl 2 rfl ?_
    refine v_iconst (v := (5 : Int32)) C eX12_permute_194 (by decide) ?_
    refine v_icmp_ge (tgt := 271) C eX12_permute_195 (by decide) (fun _ => ?_) (fun h => absurd (ix_le (a := 5) (b := 5) (rfl : (5 : Int32) = nI 5) (rfl : nI 5 = nI 5) (by omega) (by omega) (by omega)) h)
    refine v_pick (lv' := [(0, .ref (ad 49)), (1, .int (nI i))]) [0, 1] rfl ?_
    exact kk
  · intro a ha iha
    refine v_iload_n C eX12_permute_193 rfl 2 rfl ?_
    refine v_iconst (v := (5 : Int32)) C eX12_permute_194 (by decide) ?_
    refine v_icmp_ge (tgt := 271) C eX12_permute_195 (by decide) (fun h => absurd h (ix_nle (a := 5) (b := a) (rfl : (5 : Int32) = nI 5) (rfl : nI a = nI a) (by omega) (by omega) (by omega))) (fun _ => ?_)
    refine v_iconst (v := (0 : Int32)) C eX12_permute_198 (by decide) ?_
    refine v_istore_n (lv' := [(0, .ref (ad 49)), (1, .int (nI i)), (2, .int (nI a)), (3, .int ((0 : Int32)))]) C eX12_permute_199 rfl (by decide) [1, 2, 3, 0] rfl ?_
    refine v_forV (fun b => va_up (va_up (va_up σ 13 (eJ G 25 (itN (fun b S => vp_updL S (a + 5 * b) (O (a + 5 * b) ^^^ ((O ((a + 1) % 5 + 5 * b) ^^^ (-1)) &&& O ((a + 2) % 5 + 5 * b)))) b (itN (fun a S => itN (fun b S => vp_updL S (a + 5 * b) (O (a + 5 * b) ^^^ ((O ((a + 1) % 5 + 5 * b) ^^^ (-1)) &&& O ((a + 2) % 5 + 5 * b)))) 5 S) a S)))) 14 (eJ G 25 O)) 15 (eJ G 5 D)) (fun b => [(0, .ref (ad 49)), (1, .int (nI i)), (2, .int (nI a)), (3, .int (nI b))]) 5 ?_ ?_
    · refine v_iload_n C eX12_permute_200 rfl 3 rfl ?_
      refine v_iconst (v := (5 : Int32)) C eX12_permute_201 (by decide) ?_
      refine v_icmp_ge (tgt := 265) C eX12_permute_202 (by decide) (fun _ => ?_) (fun h => absurd (ix_le (a := 5) (b := 5) (rfl : (5 : Int32) = nI 5) (rfl : nI 5 = nI 5) (by omega) (by omega) (by omega)) h)
      refine v_iinc (lv' := [(0, .ref (ad 49)), (1, .int (nI i)), (2, .int (nI (a + 1))), (3, .int (nI 5))]) C eX12_permute_265 2 rfl (ix_inc _) (by decide) [1, 2, 0, 3] rfl ?_
      refine v_goto (tgt := 193) C eX12_permute_268 (by decide) ?_
      refine v_pick (lv' := [(0, .ref (ad 49)), (1, .int (nI i)), (2, .int (nI (a + 1)))]) [0, 1, 2] rfl ?_
      exact iha
    · intro b hb ihb
      refine v_iload_n C eX12_permute_200 rfl 3 rfl ?_
      refine v_iconst (v := (5 : Int32)) C eX12_permute_201 (by decide) ?_
      refine v_icmp_ge (tgt := 265) C eX12_permute_202 (by decide) (fun h => absurd h (ix_nle (a := 5) (b := b) (rfl : (5 : Int32) = nI 5) (rfl : nI b = nI b) (by omega) (by omega) (by omega))) (fun _ => ?_)
      refine v_aload_n C eX12_permute_205 rfl 0 rfl ?_
      refine n_get C I fX12_48_X12 eX12_permute_206 (hN 49 (by decide)) h49 rfl ?_
      refine v_iload_n C eX12_permute_209 rfl 2 rfl ?_
      refine v_iconst (v := (5 : Int32)) C eX12_permute_210 (by decide) ?_
      refine v_iload_n C eX12_permute_211 rfl 3 rfl ?_
      refine v_imul C eX12_permute_212 ?_
      refine v_iadd C eX12_permute_213 ?_
      refine v_aload_n C eX12_permute_214 rfl 0 rfl ?_
      refine n_get C I fX12_51_X12 eX12_permute_215 (hN 49 (by decide)) h49 rfl ?_
      refine v_iload_n C eX12_permute_218 rfl 2 rfl ?_
      refine v_iconst (v := (5 : Int32)) C eX12_permute_219 (by decide) ?_
      refine v_iload_n C eX12_permute_220 rfl 3 rfl ?_
      refine v_imul C eX12_permute_221 ?_
      refine v_iadd C eX12_permute_222 ?_
      refine n_lald C I eX12_permute_223 (hN 14 (by decide)) rfl (a + (5 * b)) (ix_add (a := a) (b := 5 * b) (rfl : nI a = nI a) (ix_mul (a := 5) (b := b) (rfl : (5 : Int32) = nI 5) (rfl : nI b = nI b))) (by omega) (by decide) ?_
      refine v_aload_n C eX12_permute_224 rfl 0 rfl ?_
      refine n_get C I fX12_51_X12 eX12_permute_225 (hN 49 (by decide)) h49 rfl ?_
      refine v_iload_n C eX12_permute_228 rfl 2 rfl ?_
      refine v_iconst (v := (1 : Int32)) C eX12_permute_229 (by decide) ?_
      refine v_iadd C eX12_permute_230 ?_
      refine v_iconst (v := (5 : Int32)) C eX12_permute_231 (by decide) ?_
      refine v_irem C eX12_permute_232 (by decide) ?_
      refine v_iconst (v := (5 : Int32)) C eX12_permute_233 (by decide) ?_
      refine v_iload_n C eX12_permute_234 rfl 3 rfl ?_
      refine v_imul C eX12_permute_235 ?_
      refine v_iadd C eX12_permute_236 ?_
      refine n_lald C I eX12_permute_237 (hN 14 (by decide)) rfl (((a + 1) % 5) + (5 * b)) (ix_add (a := (a + 1) % 5) (b := 5 * b) (ix_rem (a := a + 1) (d := 5) (ix_add (a := a) (b := 1) (rfl : nI a = nI a) (rfl : (1 : Int32) = nI 1)) (rfl : (5 : Int32) = nI 5) (by omega) (by omega) (by omega)) (ix_mul (a := 5) (b := b) (rfl : (5 : Int32) = nI 5) (rfl : nI b = nI b))) (by omega) (by decide) ?_
      refine v_ldc2 (v := (-1 : Int64)) C eX12_permute_238 vw_1154 ?_
      refine v_lxor C eX12_permute_241 ?_
      refine v_aload_n C eX12_permute_242 rfl 0 rfl ?_
      refine n_get C I fX12_51_X12 eX12_permute_243 (hN 49 (by decide)) h49 rfl ?_
      refine v_iload_n C eX12_permute_246 rfl 2 rfl ?_
      refine v_iconst (v := (2 : Int32)) C eX12_permute_247 (by decide) ?_
      refine v_iadd C eX12_permute_248 ?_
      refine v_iconst (v := (5 : Int32)) C eX12_permute_249 (by decide) ?_
      refine v_irem C eX12_permute_250 (by decide) ?_
      refine v_iconst (v := (5 : Int32)) C eX12_permute_251 (by decide) ?_
      refine v_iload_n C eX12_permute_252 rfl 3 rfl ?_
      refine v_imul C eX12_permute_253 ?_
      refine v_iadd C eX12_permute_254 ?_
      refine n_lald C I eX12_permute_255 (hN 14 (by decide)) rfl (((a + 2) % 5) + (5 * b)) (ix_add (a := (a + 2) % 5) (b := 5 * b) (ix_rem (a := a + 2) (d := 5) (ix_add (a := a) (b := 2) (rfl : nI a = nI a) (rfl : (2 : Int32) = nI 2)) (rfl : (5 : Int32) = nI 5) (by omega) (by omega) (by omega)) (ix_mul (a := 5) (b := b) (rfl : (5 : Int32) = nI 5) (rfl : nI b = nI b))) (by omega) (by decide) ?_
      refine v_land C eX12_permute_256 ?_
      refine v_lxor C eX12_permute_257 ?_
      refine n_last C I eX12_permute_258 (hN 13 (by decide)) rfl (a + (5 * b)) (ix_add (a := a) (b := 5 * b) (rfl : nI a = nI a) (ix_mul (a := 5) (b := b) (rfl : (5 : Int32) = nI 5) (rfl : nI b = nI b))) (by omega) (by decide) ?_
      refine v_iinc (lv' := [(0, .ref (ad 49)), (1, .int (nI i)), (2, .int (nI a)), (3, .int (nI (b + 1)))]) C eX12_permute_259 3 rfl (ix_inc _) (by decide) [1, 2, 3, 0] rfl ?_
      refine v_goto (tgt := 200) C eX12_permute_262 (by decide) ?_
      refine v_eq (w' := nW ad N (va_up (va_up (va_up σ 13 (eJ G 25 (vp_updL (itN (fun b S => vp_updL S (a + 5 * b) (O (a + 5 * b) ^^^ ((O ((a + 1) % 5 + 5 * b) ^^^ (-1)) &&& O ((a + 2) % 5 + 5 * b)))) b (itN (fun a S => itN (fun b S => vp_updL S (a + 5 * b) (O (a + 5 * b) ^^^ ((O ((a + 1) % 5 + 5 * b) ^^^ (-1)) &&& O ((a + 2) % 5 + 5 * b)))) 5 S) a S)) (a + (5 * b)) ((O (a + (5 * b))) ^^^ (((O (((a + 1) % 5) + (5 * b))) ^^^ ((-1 : Int64))) &&& (O (((a + 2) % 5) + (5 * b)))))))) 14 (eJ G 25 O)) 15 (eJ G 5 D))) (congrArg (nW ad N) (n_extL [13, 14, 15] ⟨rfl, rfl, rfl, trivial⟩ (fun q h => by simp only [List.mem_cons, List.not_mem_nil, or_false, not_or] at h; simp [va_up, h]))) rfl rfl ?_
      exact ihb

set_option maxRecDepth 100000 in
set_option maxHeartbeats 4000000 in
theorem c_permute (I : nI1 ad N) (hN : ∀ k, k < 74 → k < N) {σ : nS} {x : Nat → Int32} {t : Int64} {S O D : Nat → Int64} {T : Nat → Int32} {K : Nat → Int64} (h49 : σ 49 = eO 9 (mO ad x t)) (h13 : σ 13 = eJ G 25 S) (h14 : σ 14 = eJ G 25 O) (h15 : σ 15 = eJ G 5 D) (h11 : σ 11 = eI G 25 T) (h12 : σ 12 = eJ G 24 K) : nOk G B l ad N yX12_permute cX12_permute 4 none 1 0 0 [.ref (ad 49)] σ (fun r σ' => r = none ∧ σ' = va_up (va_up (va_up σ 13 (eJ G 25 (itN (pmR T K) 24 (S, O, D)).1)) 14 (eJ G 25 (itN (pmR T K) 24 (S, O, D)).2.1)) 15 (eJ G 5 (itN (pmR T K) 24 (S, O, D)).2.2)) := by
  refine vOk.of (by decide +kernel) (Nat.le_of_ble_eq_true rfl) ?_
  intro p e s m args below meth c C
  refine v_eq (lv' := [(0, .ref (ad 49))]) rfl rfl rfl ?_
  refine v_iconst (v := (0 : Int32)) C eX12_permute_0 (by decide) ?_
  refine v_istore_n (lv' := [(0, .ref (ad 49)), (1, .int ((0 : Int32)))]) C eX12_permute_1 rfl (by decide) [1, 0] rfl ?_
  refine v_eq (w' := nW ad N (va_up (va_up (va_up σ 13 (eJ G 25 S)) 14 (eJ G 25 O)) 15 (eJ G 5 D))) (congrArg (nW ad N) (n_extL [13, 14, 15] ⟨h13, h14, h15, trivial⟩ (fun q h => by simp only [List.mem_cons, List.not_mem_nil, or_false, not_or] at h; simp [va_up, h]))) rfl rfl ?_
  refine v_forV (fun i => va_up (va_up (va_up σ 13 (eJ G 25 ((itN (pmR T K) i (S, O, D)).1))) 14 (eJ G 25 ((itN (pmR T K) i (S, O, D)).2.1))) 15 (eJ G 5 ((itN (pmR T K) i (S, O, D)).2.2))) (fun i => [(0, .ref (ad 49)), (1, .int (nI i))]) 24 ?_ ?_
  · refine v_iload_n C eX12_permute_2 rfl 1 rfl ?_
    refine v_bipush (v := (24 : Int32)) C eX12_permute_3 (by decide) ?_
    refine v_icmp_ge (tgt := 292) C eX12_permute_5 (by decide) (fun _ => ?_) (fun h => absurd (ix_le (a := 24) (b := 24) (rfl : (24 : Int32) = nI 24) (rfl : nI 24 = nI 24) (by omega) (by omega) (by omega)) h)
    exact n_vret C rfl eX12_permute_292 ⟨rfl, rfl⟩
  · intro i hi ih
    refine v_iload_n C eX12_permute_2 rfl 1 rfl ?_
    refine v_bipush (v := (24 : Int32)) C eX12_permute_3 (by decide) ?_
    refine v_icmp_ge (tgt := 292) C eX12_permute_5 (by decide) (fun h => absurd h (ix_nle (a := 24) (b := i) (rfl : (24 : Int32) = nI 24) (rfl : nI i = nI i) (by omega) (by omega) (by omega))) (fun _ => ?_)
    rw [show itN (pmR T K) (i + 1) (S, O, D) = pmR T K i (itN (pmR T K) i (S, O, D)) from rfl] at ih
    generalize itN (pmR T K) i (S, O, D) = q at ih ⊢
    obtain ⟨S, O, D⟩ := q
    refine pm_1 I hN C h49 h11 h12 hi ?_
    refine pm_2 I hN C h49 h11 h12 hi rfl (by decide) (by decide) (by decide) ?_
    refine pm_3 I hN C h49 h11 h12 hi rfl (by decide) (by decide) (by decide) ?_
    refine pm_4 I hN C h49 h11 h12 hi ?_
    refine v_aload_n C eX12_permute_271 rfl 0 rfl ?_
    refine n_get C I fX12_48_X12 eX12_permute_272 (hN 49 (by decide)) h49 rfl ?_
    refine v_iconst (v := (0 : Int32)) C eX12_permute_275 (by decide) ?_
    refine v_dup2_11 C eX12_permute_276 rfl rfl ?_
    refine n_lald C I eX12_permute_277 (hN 13 (by decide)) rfl 0 (rfl : (0 : Int32) = nI 0) (by omega) (by decide) ?_
    refine v_aload_n C eX12_permute_278 rfl 0 rfl ?_
    refine n_get C I fX12_45_X12 eX12_permute_279 (hN 49 (by decide)) h49 rfl ?_
    refine v_iload_n C eX12_permute_282 rfl 1 rfl ?_
    refine n_lald C I eX12_permute_283 (hN 12 (by decide)) h12 i (rfl : nI i = nI i) (by omega) (by decide) ?_
    refine v_lxor C eX12_permute_284 ?_
    refine n_last C I eX12_permute_285 (hN 13 (by decide)) rfl 0 (rfl : (0 : Int32) = nI 0) (by omega) (by decide) ?_
    refine v_iinc (lv' := [(0, .ref (ad 49)), (1, .int (nI (i + 1)))]) C eX12_permute_286 1 rfl (ix_inc _) (by decide) [1, 0] rfl ?_
    refine v_goto (tgt := 2) C eX12_permute_289 (by decide) ?_
    refine v_eq (w' := nW ad N (va_up (va_up (va_up σ 13 (eJ G 25 (vp_updL (pmCh (pmRo T (pmTh (pmC S D) S) O) (pmTh (pmC S D) S)) 0 (((pmCh (pmRo T (pmTh (pmC S D) S) O) (pmTh (pmC S D) S)) 0) ^^^ (K i))))) 14 (eJ G 25 (pmRo T (pmTh (pmC S D) S) O))) 15 (eJ G 5 (pmC S D)))) (congrArg (nW ad N) (n_extL [13, 14, 15] ⟨rfl, rfl, rfl, trivial⟩ (fun q h => by simp only [List.mem_cons, List.not_mem_nil, or_false, not_or] at h; simp [va_up, h]))) rfl rfl ?_
    exact ih

end M1
