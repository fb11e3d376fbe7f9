theorem eX12_thrown_0 : vD cX12_thrown 0 (.aload_n 0) 1 1 := ⟨by decide +kernel, rfl⟩
theorem eX12_thrown_1 : vD cX12_thrown 1 (.getfield 123) 3 4 := ⟨by decide +kernel, rfl⟩
theorem eX12_thrown_4 : vD cX12_thrown 4 .ireturn 1 5 := ⟨by decide +kernel, rfl⟩
theorem eX12_length_0 : vD cX12_length 0 (.aload_n 0) 1 1 := ⟨by decide +kernel, rfl⟩
theorem eX12_length_1 : vD cX12_length 1 (.iload_n 1) 1 2 := ⟨by decide +kernel, rfl⟩
theorem eX12_length_2 : vD cX12_length 2 (.iconst 0) 1 3 := ⟨by decide +kernel, rfl⟩
theorem eX12_length_3 : vD cX12_length 3 (.bipush 7) 2 5 := ⟨by decide +kernel, rfl⟩
theorem eX12_length_5 : vD cX12_length 5 (.invokestatic 138) 3 8 := ⟨by decide +kernel, rfl⟩
theorem eX12_length_8 : vD cX12_length 8 (.iconst 1) 1 9 := ⟨by decide +kernel, rfl⟩
theorem eX12_length_9 : vD cX12_length 9 (.invokevirtual 130) 3 12 := ⟨by decide +kernel, rfl⟩
theorem eX12_length_12 : vD cX12_length 12 (.ifCond .ne 5) 3 15 := ⟨by decide +kernel, rfl⟩
theorem eX12_length_15 : vD cX12_length 15 (.iconst 0) 1 16 := ⟨by decide +kernel, rfl⟩
theorem eX12_length_16 : vD cX12_length 16 .ireturn 1 17 := ⟨by decide +kernel, rfl⟩
theorem eX12_length_17 : vD cX12_length 17 (.aload_n 0) 1 18 := ⟨by decide +kernel, rfl⟩
theorem eX12_length_18 : vD cX12_length 18 (.getfield 19) 3 21 := ⟨by decide +kernel, rfl⟩
theorem eX12_length_21 : vD cX12_length 21 (.iload_n 1) 1 22 := ⟨by decide +kernel, rfl⟩
theorem eX12_length_22 : vD cX12_length 22 .iaload 1 23 := ⟨by decide +kernel, rfl⟩
theorem eX12_length_23 : vD cX12_length 23 .ireturn 1 24 := ⟨by decide +kernel, rfl⟩
theorem eX12_feed_0 : vD cX12_feed 0 (.aload_n 0) 1 1 := ⟨by decide +kernel, rfl⟩
theorem eX12_feed_1 : vD cX12_feed 1 (.aload_n 0) 1 2 := ⟨by decide +kernel, rfl⟩
theorem eX12_feed_2 : vD cX12_feed 2 (.getfield 127) 3 5 := ⟨by decide +kernel, rfl⟩
theorem eX12_feed_5 : vD cX12_feed 5 (.bipush 20) 2 7 := ⟨by decide +kernel, rfl⟩
theorem eX12_feed_7 : vD cX12_feed 7 .iadd 1 8 := ⟨by decide +kernel, rfl⟩
theorem eX12_feed_8 : vD cX12_feed 8 (.ldc 9) 2 10 := ⟨by decide +kernel, rfl⟩
theorem eX12_feed_10 : vD cX12_feed 10 (.if_icmp .gt 7) 3 13 := ⟨by decide +kernel, rfl⟩
theorem eX12_feed_13 : vD cX12_feed 13 (.iconst 1) 1 14 := ⟨by decide +kernel, rfl⟩
theorem eX12_feed_14 : vD cX12_feed 14 (.goto 4) 3 17 := ⟨by decide +kernel, rfl⟩
theorem eX12_feed_17 : vD cX12_feed 17 (.iconst 0) 1 18 := ⟨by decide +kernel, rfl⟩
theorem eX12_feed_18 : vD cX12_feed 18 (.iconst 1) 1 19 := ⟨by decide +kernel, rfl⟩
theorem eX12_feed_19 : vD cX12_feed 19 (.invokevirtual 130) 3 22 := ⟨by decide +kernel, rfl⟩
theorem eX12_feed_22 : vD cX12_feed 22 (.ifCond .ne 5) 3 25 := ⟨by decide +kernel, rfl⟩
theorem eX12_feed_25 : vD cX12_feed 25 (.iconst 0) 1 26 := ⟨by decide +kernel, rfl⟩
theorem eX12_feed_26 : vD cX12_feed 26 .ireturn 1 27 := ⟨by decide +kernel, rfl⟩
theorem eX12_feed_27 : vD cX12_feed 27 (.aload_n 0) 1 28 := ⟨by decide +kernel, rfl⟩
theorem eX12_feed_28 : vD cX12_feed 28 (.iload_n 1) 1 29 := ⟨by decide +kernel, rfl⟩
theorem eX12_feed_29 : vD cX12_feed 29 (.invokevirtual 134) 3 32 := ⟨by decide +kernel, rfl⟩
theorem eX12_feed_32 : vD cX12_feed 32 (.aload_n 0) 1 33 := ⟨by decide +kernel, rfl⟩
theorem eX12_feed_33 : vD cX12_feed 33 (.iload_n 2) 1 34 := ⟨by decide +kernel, rfl⟩
theorem eX12_feed_34 : vD cX12_feed 34 (.invokevirtual 134) 3 37 := ⟨by decide +kernel, rfl⟩
theorem eX12_feed_37 : vD cX12_feed 37 (.aload_n 0) 1 38 := ⟨by decide +kernel, rfl⟩
theorem eX12_feed_38 : vD cX12_feed 38 (.iload_n 3) 1 39 := ⟨by decide +kernel, rfl⟩
theorem eX12_feed_39 : vD cX12_feed 39 (.invokevirtual 134) 3 42 := ⟨by decide +kernel, rfl⟩
theorem eX12_feed_42 : vD cX12_feed 42 (.aload_n 0) 1 43 := ⟨by decide +kernel, rfl⟩
theorem eX12_feed_43 : vD cX12_feed 43 (.iload 4) 2 45 := ⟨by decide +kernel, rfl⟩
theorem eX12_feed_45 : vD cX12_feed 45 (.invokevirtual 134) 3 48 := ⟨by decide +kernel, rfl⟩
theorem eX12_feed_48 : vD cX12_feed 48 (.aload_n 0) 1 49 := ⟨by decide +kernel, rfl⟩
theorem eX12_feed_49 : vD cX12_feed 49 (.iload 5) 2 51 := ⟨by decide +kernel, rfl⟩
theorem eX12_feed_51 : vD cX12_feed 51 (.invokevirtual 134) 3 54 := ⟨by decide +kernel, rfl⟩
theorem eX12_feed_54 : vD cX12_feed 54 (.aload_n 0) 1 55 := ⟨by decide +kernel, rfl⟩
theorem eX12_feed_55 : vD cX12_feed 55 (.getfield 127) 3 58 := ⟨by decide +kernel, rfl⟩
theorem eX12_feed_58 : vD cX12_feed 58 .ireturn 1 59 := ⟨by decide +kernel, rfl⟩
theorem eX12_word_0 : vD cX12_word 0 (.iconst 0) 1 1 := ⟨by decide +kernel, rfl⟩
theorem eX12_word_1 : vD cX12_word 1 (.istore_n 2) 1 2 := ⟨by decide +kernel, rfl⟩
theorem eX12_word_2 : vD cX12_word 2 (.iload_n 2) 1 3 := ⟨by decide +kernel, rfl⟩
theorem eX12_word_3 : vD cX12_word 3 (.iconst 4) 1 4 := ⟨by decide +kernel, rfl⟩
theorem eX12_word_4 : vD cX12_word 4 (.if_icmp .ge 30) 3 7 := ⟨by decide +kernel, rfl⟩
theorem eX12_word_7 : vD cX12_word 7 (.aload_n 0) 1 8 := ⟨by decide +kernel, rfl⟩
theorem eX12_word_8 : vD cX12_word 8 (.getfield 10) 3 11 := ⟨by decide +kernel, rfl⟩
theorem eX12_word_11 : vD cX12_word 11 (.aload_n 0) 1 12 := ⟨by decide +kernel, rfl⟩
theorem eX12_word_12 : vD cX12_word 12 (.getfield 127) 3 15 := ⟨by decide +kernel, rfl⟩
theorem eX12_word_15 : vD cX12_word 15 (.iload_n 2) 1 16 := ⟨by decide +kernel, rfl⟩
theorem eX12_word_16 : vD cX12_word 16 .iadd 1 17 := ⟨by decide +kernel, rfl⟩
theorem eX12_word_17 : vD cX12_word 17 (.iload_n 1) 1 18 := ⟨by decide +kernel, rfl⟩
theorem eX12_word_18 : vD cX12_word 18 (.bipush 24) 2 20 := ⟨by decide +kernel, rfl⟩
theorem eX12_word_20 : vD cX12_word 20 (.bipush 8) 2 22 := ⟨by decide +kernel, rfl⟩
theorem eX12_word_22 : vD cX12_word 22 (.iload_n 2) 1 23 := ⟨by decide +kernel, rfl⟩
theorem eX12_word_23 : vD cX12_word 23 .imul 1 24 := ⟨by decide +kernel, rfl⟩
theorem eX12_word_24 : vD cX12_word 24 .isub 1 25 := ⟨by decide +kernel, rfl⟩
theorem eX12_word_25 : vD cX12_word 25 .ishr 1 26 := ⟨by decide +kernel, rfl⟩
theorem eX12_word_26 : vD cX12_word 26 .i2b 1 27 := ⟨by decide +kernel, rfl⟩
theorem eX12_word_27 : vD cX12_word 27 .bastore 1 28 := ⟨by decide +kernel, rfl⟩
theorem eX12_word_28 : vD cX12_word 28 (.iinc 2 1) 3 31 := ⟨by decide +kernel, rfl⟩
theorem eX12_word_31 : vD cX12_word 31 (.goto (-29)) 3 34 := ⟨by decide +kernel, rfl⟩
theorem eX12_word_34 : vD cX12_word 34 (.aload_n 0) 1 35 := ⟨by decide +kernel, rfl⟩
theorem eX12_word_35 : vD cX12_word 35 .dup 1 36 := ⟨by decide +kernel, rfl⟩
theorem eX12_word_36 : vD cX12_word 36 (.getfield 127) 3 39 := ⟨by decide +kernel, rfl⟩
theorem eX12_word_39 : vD cX12_word 39 (.iconst 4) 1 40 := ⟨by decide +kernel, rfl⟩
theorem eX12_word_40 : vD cX12_word 40 .iadd 1 41 := ⟨by decide +kernel, rfl⟩
theorem eX12_word_41 : vD cX12_word 41 (.putfield 127) 3 44 := ⟨by decide +kernel, rfl⟩
theorem eX12_word_44 : vD cX12_word 44 .return_ 1 45 := ⟨by decide +kernel, rfl⟩
theorem eX12_end_0 : vD cX12_end 0 (.aload_n 0) 1 1 := ⟨by decide +kernel, rfl⟩
theorem eX12_end_1 : vD cX12_end 1 (.iload_n 1) 1 2 := ⟨by decide +kernel, rfl⟩
theorem eX12_end_2 : vD cX12_end 2 (.iconst 0) 1 3 := ⟨by decide +kernel, rfl⟩
theorem eX12_end_3 : vD cX12_end 3 (.bipush 7) 2 5 := ⟨by decide +kernel, rfl⟩
theorem eX12_end_5 : vD cX12_end 5 (.invokestatic 138) 3 8 := ⟨by decide +kernel, rfl⟩
theorem eX12_end_8 : vD cX12_end 8 (.ifCond .eq 17) 3 11 := ⟨by decide +kernel, rfl⟩
theorem eX12_end_11 : vD cX12_end 11 (.iload_n 2) 1 12 := ⟨by decide +kernel, rfl⟩
theorem eX12_end_12 : vD cX12_end 12 (.iconst 0) 1 13 := ⟨by decide +kernel, rfl⟩
theorem eX12_end_13 : vD cX12_end 13 (.ldc 9) 2 15 := ⟨by decide +kernel, rfl⟩
theorem eX12_end_15 : vD cX12_end 15 (.invokestatic 138) 3 18 := ⟨by decide +kernel, rfl⟩
theorem eX12_end_18 : vD cX12_end 18 (.ifCond .eq 7) 3 21 := ⟨by decide +kernel, rfl⟩
theorem eX12_end_21 : vD cX12_end 21 (.iconst 1) 1 22 := ⟨by decide +kernel, rfl⟩
theorem eX12_end_22 : vD cX12_end 22 (.goto 4) 3 25 := ⟨by decide +kernel, rfl⟩
theorem eX12_end_25 : vD cX12_end 25 (.iconst 0) 1 26 := ⟨by decide +kernel, rfl⟩
theorem eX12_end_26 : vD cX12_end 26 (.iconst 1) 1 27 := ⟨by decide +kernel, rfl⟩
theorem eX12_end_27 : vD cX12_end 27 (.invokevirtual 130) 3 30 := ⟨by decide +kernel, rfl⟩
theorem eX12_end_30 : vD cX12_end 30 (.ifCond .eq 24) 3 33 := ⟨by decide +kernel, rfl⟩
theorem eX12_end_33 : vD cX12_end 33 (.aload_n 0) 1 34 := ⟨by decide +kernel, rfl⟩
theorem eX12_end_34 : vD cX12_end 34 (.iload_n 2) 1 35 := ⟨by decide +kernel, rfl⟩
theorem eX12_end_35 : vD cX12_end 35 (.aload_n 0) 1 36 := ⟨by decide +kernel, rfl⟩
theorem eX12_end_36 : vD cX12_end 36 (.getfield 127) 3 39 := ⟨by decide +kernel, rfl⟩
theorem eX12_end_39 : vD cX12_end 39 (.if_icmp .gt 7) 3 42 := ⟨by decide +kernel, rfl⟩
theorem eX12_end_42 : vD cX12_end 42 (.iconst 1) 1 43 := ⟨by decide +kernel, rfl⟩
theorem eX12_end_43 : vD cX12_end 43 (.goto 4) 3 46 := ⟨by decide +kernel, rfl⟩
theorem eX12_end_46 : vD cX12_end 46 (.iconst 0) 1 47 := ⟨by decide +kernel, rfl⟩
theorem eX12_end_47 : vD cX12_end 47 (.iconst 2) 1 48 := ⟨by decide +kernel, rfl⟩
theorem eX12_end_48 : vD cX12_end 48 (.invokevirtual 130) 3 51 := ⟨by decide +kernel, rfl⟩
theorem eX12_end_51 : vD cX12_end 51 (.ifCond .ne 5) 3 54 := ⟨by decide +kernel, rfl⟩
theorem eX12_end_54 : vD cX12_end 54 (.iconst 0) 1 55 := ⟨by decide +kernel, rfl⟩
theorem eX12_end_55 : vD cX12_end 55 .ireturn 1 56 := ⟨by decide +kernel, rfl⟩
theorem eX12_end_56 : vD cX12_end 56 (.iconst 0) 1 57 := ⟨by decide +kernel, rfl⟩
theorem eX12_end_57 : vD cX12_end 57 (.istore_n 3) 1 58 := ⟨by decide +kernel, rfl⟩
theorem eX12_end_58 : vD cX12_end 58 (.iload_n 3) 1 59 := ⟨by decide +kernel, rfl⟩
theorem eX12_end_59 : vD cX12_end 59 (.iload_n 2) 1 60 := ⟨by decide +kernel, rfl⟩
theorem eX12_end_60 : vD cX12_end 60 (.if_icmp .ge 23) 3 63 := ⟨by decide +kernel, rfl⟩
theorem eX12_end_63 : vD cX12_end 63 (.aload_n 0) 1 64 := ⟨by decide +kernel, rfl⟩
theorem eX12_end_64 : vD cX12_end 64 (.getfield 16) 3 67 := ⟨by decide +kernel, rfl⟩
theorem eX12_end_67 : vD cX12_end 67 (.iload_n 1) 1 68 := ⟨by decide +kernel, rfl⟩
theorem eX12_end_68 : vD cX12_end 68 .aaload 1 69 := ⟨by decide +kernel, rfl⟩
theorem eX12_end_69 : vD cX12_end 69 (.iload_n 3) 1 70 := ⟨by decide +kernel, rfl⟩
theorem eX12_end_70 : vD cX12_end 70 (.aload_n 0) 1 71 := ⟨by decide +kernel, rfl⟩
theorem eX12_end_71 : vD cX12_end 71 (.getfield 10) 3 74 := ⟨by decide +kernel, rfl⟩
theorem eX12_end_74 : vD cX12_end 74 (.iload_n 3) 1 75 := ⟨by decide +kernel, rfl⟩
theorem eX12_end_75 : vD cX12_end 75 .baload 1 76 := ⟨by decide +kernel, rfl⟩
theorem eX12_end_76 : vD cX12_end 76 .bastore 1 77 := ⟨by decide +kernel, rfl⟩
theorem eX12_end_77 : vD cX12_end 77 (.iinc 3 1) 3 80 := ⟨by decide +kernel, rfl⟩
theorem eX12_end_80 : vD cX12_end 80 (.goto (-22)) 3 83 := ⟨by decide +kernel, rfl⟩
theorem eX12_end_83 : vD cX12_end 83 (.aload_n 0) 1 84 := ⟨by decide +kernel, rfl⟩
theorem eX12_end_84 : vD cX12_end 84 (.getfield 19) 3 87 := ⟨by decide +kernel, rfl⟩
theorem eX12_end_87 : vD cX12_end 87 (.iload_n 1) 1 88 := ⟨by decide +kernel, rfl⟩
theorem eX12_end_88 : vD cX12_end 88 (.iload_n 2) 1 89 := ⟨by decide +kernel, rfl⟩
theorem eX12_end_89 : vD cX12_end 89 .iastore 1 90 := ⟨by decide +kernel, rfl⟩
theorem eX12_end_90 : vD cX12_end 90 (.aload_n 0) 1 91 := ⟨by decide +kernel, rfl⟩
theorem eX12_end_91 : vD cX12_end 91 (.iconst 0) 1 92 := ⟨by decide +kernel, rfl⟩
theorem eX12_end_92 : vD cX12_end 92 (.putfield 127) 3 95 := ⟨by decide +kernel, rfl⟩
theorem eX12_end_95 : vD cX12_end 95 (.iload_n 2) 1 96 := ⟨by decide +kernel, rfl⟩
theorem eX12_end_96 : vD cX12_end 96 .ireturn 1 97 := ⟨by decide +kernel, rfl⟩
theorem eX12_copy_0 : vD cX12_copy 0 (.aload_n 0) 1 1 := ⟨by decide +kernel, rfl⟩
theorem eX12_copy_1 : vD cX12_copy 1 (.iload_n 1) 1 2 := ⟨by decide +kernel, rfl⟩
theorem eX12_copy_2 : vD cX12_copy 2 (.iconst 0) 1 3 := ⟨by decide +kernel, rfl⟩
theorem eX12_copy_3 : vD cX12_copy 3 (.bipush 7) 2 5 := ⟨by decide +kernel, rfl⟩
theorem eX12_copy_5 : vD cX12_copy 5 (.invokestatic 138) 3 8 := ⟨by decide +kernel, rfl⟩
theorem eX12_copy_8 : vD cX12_copy 8 (.ifCond .eq 17) 3 11 := ⟨by decide +kernel, rfl⟩
theorem eX12_copy_11 : vD cX12_copy 11 (.iload_n 2) 1 12 := ⟨by decide +kernel, rfl⟩
theorem eX12_copy_12 : vD cX12_copy 12 (.iconst 0) 1 13 := ⟨by decide +kernel, rfl⟩
theorem eX12_copy_13 : vD cX12_copy 13 (.bipush 7) 2 15 := ⟨by decide +kernel, rfl⟩
theorem eX12_copy_15 : vD cX12_copy 15 (.invokestatic 138) 3 18 := ⟨by decide +kernel, rfl⟩
theorem eX12_copy_18 : vD cX12_copy 18 (.ifCond .eq 7) 3 21 := ⟨by decide +kernel, rfl⟩
theorem eX12_copy_21 : vD cX12_copy 21 (.iconst 1) 1 22 := ⟨by decide +kernel, rfl⟩
theorem eX12_copy_22 : vD cX12_copy 22 (.goto 4) 3 25 := ⟨by decide +kernel, rfl⟩
theorem eX12_copy_25 : vD cX12_copy 25 (.iconst 0) 1 26 := ⟨by decide +kernel, rfl⟩
theorem eX12_copy_26 : vD cX12_copy 26 (.iconst 1) 1 27 := ⟨by decide +kernel, rfl⟩
theorem eX12_copy_27 : vD cX12_copy 27 (.invokevirtual 130) 3 30 := ⟨by decide +kernel, rfl⟩
theorem eX12_copy_30 : vD cX12_copy 30 (.ifCond .ne 5) 3 33 := ⟨by decide +kernel, rfl⟩
theorem eX12_copy_33 : vD cX12_copy 33 (.iconst 0) 1 34 := ⟨by decide +kernel, rfl⟩
theorem eX12_copy_34 : vD cX12_copy 34 .ireturn 1 35 := ⟨by decide +kernel, rfl⟩
theorem eX12_copy_35 : vD cX12_copy 35 (.iconst 0) 1 36 := ⟨by decide +kernel, rfl⟩
theorem eX12_copy_36 : vD cX12_copy 36 (.istore_n 3) 1 37 := ⟨by decide +kernel, rfl⟩
theorem eX12_copy_37 : vD cX12_copy 37 (.iload_n 3) 1 38 := ⟨by decide +kernel, rfl⟩
theorem eX12_copy_38 : vD cX12_copy 38 (.aload_n 0) 1 39 := ⟨by decide +kernel, rfl⟩
theorem eX12_copy_39 : vD cX12_copy 39 (.getfield 19) 3 42 := ⟨by decide +kernel, rfl⟩
theorem eX12_copy_42 : vD cX12_copy 42 (.iload_n 1) 1 43 := ⟨by decide +kernel, rfl⟩
theorem eX12_copy_43 : vD cX12_copy 43 .iaload 1 44 := ⟨by decide +kernel, rfl⟩
theorem eX12_copy_44 : vD cX12_copy 44 (.if_icmp .ge 25) 3 47 := ⟨by decide +kernel, rfl⟩
theorem eX12_copy_47 : vD cX12_copy 47 (.aload_n 0) 1 48 := ⟨by decide +kernel, rfl⟩
theorem eX12_copy_48 : vD cX12_copy 48 (.getfield 16) 3 51 := ⟨by decide +kernel, rfl⟩
theorem eX12_copy_51 : vD cX12_copy 51 (.iload_n 2) 1 52 := ⟨by decide +kernel, rfl⟩
theorem eX12_copy_52 : vD cX12_copy 52 .aaload 1 53 := ⟨by decide +kernel, rfl⟩
theorem eX12_copy_53 : vD cX12_copy 53 (.iload_n 3) 1 54 := ⟨by decide +kernel, rfl⟩
theorem eX12_copy_54 : vD cX12_copy 54 (.aload_n 0) 1 55 := ⟨by decide +kernel, rfl⟩
theorem eX12_copy_55 : vD cX12_copy 55 (.getfield 16) 3 58 := ⟨by decide +kernel, rfl⟩
theorem eX12_copy_58 : vD cX12_copy 58 (.iload_n 1) 1 59 := ⟨by decide +kernel, rfl⟩
theorem eX12_copy_59 : vD cX12_copy 59 .aaload 1 60 := ⟨by decide +kernel, rfl⟩
theorem eX12_copy_60 : vD cX12_copy 60 (.iload_n 3) 1 61 := ⟨by decide +kernel, rfl⟩
theorem eX12_copy_61 : vD cX12_copy 61 .baload 1 62 := ⟨by decide +kernel, rfl⟩
theorem eX12_copy_62 : vD cX12_copy 62 .bastore 1 63 := ⟨by decide +kernel, rfl⟩
theorem eX12_copy_63 : vD cX12_copy 63 (.iinc 3 1) 3 66 := ⟨by decide +kernel, rfl⟩
theorem eX12_copy_66 : vD cX12_copy 66 (.goto (-29)) 3 69 := ⟨by decide +kernel, rfl⟩
theorem eX12_copy_69 : vD cX12_copy 69 (.aload_n 0) 1 70 := ⟨by decide +kernel, rfl⟩
theorem eX12_copy_70 : vD cX12_copy 70 (.getfield 19) 3 73 := ⟨by decide +kernel, rfl⟩
theorem eX12_copy_73 : vD cX12_copy 73 (.iload_n 2) 1 74 := ⟨by decide +kernel, rfl⟩
theorem eX12_copy_74 : vD cX12_copy 74 (.aload_n 0) 1 75 := ⟨by decide +kernel, rfl⟩
theorem eX12_copy_75 : vD cX12_copy 75 (.getfield 19) 3 78 := ⟨by decide +kernel, rfl⟩
theorem eX12_copy_78 : vD cX12_copy 78 (.iload_n 1) 1 79 := ⟨by decide +kernel, rfl⟩
theorem eX12_copy_79 : vD cX12_copy 79 .iaload 1 80 := ⟨by decide +kernel, rfl⟩
theorem eX12_copy_80 : vD cX12_copy 80 .iastore 1 81 := ⟨by decide +kernel, rfl⟩
theorem eX12_copy_81 : vD cX12_copy 81 (.aload_n 0) 1 82 := ⟨by decide +kernel, rfl⟩
theorem eX12_copy_82 : vD cX12_copy 82 (.getfield 19) 3 85 := ⟨by decide +kernel, rfl⟩
theorem eX12_copy_85 : vD cX12_copy 85 (.iload_n 2) 1 86 := ⟨by decide +kernel, rfl⟩
theorem eX12_copy_86 : vD cX12_copy 86 .iaload 1 87 := ⟨by decide +kernel, rfl⟩
theorem eX12_copy_87 : vD cX12_copy 87 .ireturn 1 88 := ⟨by decide +kernel, rfl⟩

section M30
variable {G : vG} {B : Nat} {l : Launch} {ad : Nat → Nat} {N : Nat} {θ : tT} {σ : nS}
set_option maxRecDepth 100000 in
set_option maxHeartbeats 4000000 in
theorem ra_thrown (I : nI1 ad N) (hN : ∀ k, k < 74 → k < N) {S : sT} {T : List Int32} {cd0 : Int32} (hA : RA G ad θ S T cd0 σ) : nOk G B l ad N yX12_thrown cX12_thrown 1 (some .int) 0 0 0 [.ref (ad 49)] σ (fun r σ' => r = some (.int cd0) ∧ σ' = σ) := by
  refine vOk.of (by decide +kernel) (Nat.le_of_ble_eq_true rfl) ?_
  intro p e s m args below meth c C
  refine v_eq (lv' := [(0, .ref (ad 49))]) rfl rfl rfl ?_
  obtain ⟨x, hC, hcd, hd⟩ := hA
  refine v_aload_n C eX12_thrown_0 rfl 0 rfl ?_
  refine n_get C I fX12_123_X12 eX12_thrown_1 (hN 49 (by decide)) hC.obj rfl ?_
  refine v_natT (show (ox σ) 4 = cd0 from hC.i4.trans hcd) ?_
  exact n_iret C rfl eX12_thrown_4 ⟨rfl, rfl⟩

set_option maxRecDepth 100000 in
set_option maxHeartbeats 4000000 in
theorem ra_length (I : nI1 ad N) (hN : ∀ k, k < 74 → k < N) {S : sT} {T : List Int32} {cd0 : Int32} (hA : RA G ad θ S T cd0 σ) (p0 : Int32) : nOk G B l ad N yX12_length cX12_length 2 (some .int) 1 0 0 [.ref (ad 49), .int p0] σ (fun r σ' => r = some (.int (sp_length S T p0).2.1) ∧ RA G ad θ ((sp_length S T p0).2.2.1) ((sp_length S T p0).2.2.2) ((sp_length S T p0).1) σ' ∧ (∀ k, 74 ≤ k → σ' k = σ k)) := by
  refine vOk.of (by decide +kernel) (Nat.le_of_ble_eq_true rfl) ?_
  intro p e s m args below meth c C
  refine v_eq (lv' := [(0, .ref (ad 49)), (1, .int p0)]) rfl rfl rfl ?_
  obtain ⟨x, hC, hcd, hd⟩ := hA
  refine v_aload_n C eX12_length_0 rfl 0 rfl ?_
  refine v_iload_n C eX12_length_1 rfl 1 rfl ?_
  refine v_iconst (v := (0 : Int32)) C eX12_length_2 (by decide) ?_
  refine v_bipush (v := (7 : Int32)) C eX12_length_3 (by decide) ?_
  refine n_callS (av := [.int p0, .int ((0 : Int32)), .int ((7 : Int32))]) (rest := [.ref (ad 49)]) C mX12_138 (c_in p0 ((0 : Int32)) ((7 : Int32))) rfl (by decide) (by decide) ⟨by decide, by decide⟩ rfl (vi_k (vi_k (vi_k rfl))) (Nat.le_of_ble_eq_true rfl) eX12_length_5 (fun r ρ hp => ?_)
  obtain ⟨rfl, hρ⟩ := hp
  rw [hρ]
  clear hρ ρ
  by_cases c : 0 ≤ p0 ∧ p0 ≤ 7
  · rw [show sp_length S T p0 = (0, nI (S (ixN p0)).length, S, T) from if_pos c]
    refine v_natT (show (if (0 : Int32) ≤ p0 ∧ p0 ≤ (7 : Int32) then (1 : Int32) else 0) = 1 from if_pos c) ?_
    refine v_iconst (v := (1 : Int32)) C eX12_length_8 (by decide) ?_
    refine n_callV (As := [.int ((1 : Int32)), .int ((1 : Int32))]) (rest := []) C I mX12_130 (rs_good1 I hN hC 1) (hN 49 (by decide)) hC.obj rfl (by decide) (by decide) ⟨by decide, by decide⟩ rfl (vi_k (vi_k rfl)) (Nat.le_of_ble_eq_true rfl) eX12_length_9 (fun r σ1 hp => ?_)
    obtain ⟨rfl, hC1, hk1⟩ := hp
    refine v_if_ne (tgt := 17) C eX12_length_12 (by decide) (fun _ => ?_) (fun h => absurd h (by decide))
    obtain ⟨hp, hpe⟩ := ixN_of (n := 7) rfl c
    refine v_aload_n C eX12_length_17 rfl 0 rfl ?_
    refine n_get C I fX12_19_X12 eX12_length_18 (hN 49 (by decide)) hC1.obj rfl ?_
    refine v_iload_n C eX12_length_21 rfl 1 rfl ?_
    refine n_iald C I eX12_length_22 (hN 2 (by decide)) hC1.len (ixN p0) hpe (by omega) (by decide) ?_
    refine v_natT (show bt σ1 2 (ixN p0) = nI (S (ixN p0)).length from by rw [bt_same (hk1 2 (by decide))]; exact (hd.2 _ (by omega)).1) ?_
    exact n_iret C rfl eX12_length_23 ⟨rfl, ⟨upd _ 4 0, hC1, rfl, hd.keep (fun k hk => hk1 k (by omega))⟩, fun k hk => hk1 k (by omega)⟩
  · rw [show sp_length S T p0 = (1, 0, S, T) from if_neg c]
    refine v_natT (show (if (0 : Int32) ≤ p0 ∧ p0 ≤ (7 : Int32) then (1 : Int32) else 0) = 0 from if_neg c) ?_
    refine v_iconst (v := (1 : Int32)) C eX12_length_8 (by decide) ?_
    refine n_callV (As := [.int ((0 : Int32)), .int ((1 : Int32))]) (rest := []) C I mX12_130 (rs_good0 I hN hC 1) (hN 49 (by decide)) hC.obj rfl (by decide) (by decide) ⟨by decide, by decide⟩ rfl (vi_k (vi_k rfl)) (Nat.le_of_ble_eq_true rfl) eX12_length_9 (fun r σ1 hp => ?_)
    obtain ⟨rfl, hC1, hk1⟩ := hp
    refine v_if_ne (tgt := 17) C eX12_length_12 (by decide) (fun h => absurd (by decide) h) (fun _ => ?_)
    refine v_iconst (v := (0 : Int32)) C eX12_length_15 (by decide) ?_
    exact n_iret C rfl eX12_length_16 ⟨rfl, ⟨upd _ 4 1, hC1, rfl, hd.keep (fun k hk => hk1 k (by omega))⟩, fun k hk => hk1 k (by omega)⟩

theorem nrw_w4 {v : Int32} : nrw (w4 v) := by
  intro u hu
  have : u = b4 v 0 ∨ u = b4 v 1 ∨ u = b4 v 2 ∨ u = b4 v 3 := by simpa [w4] using hu
  rcases this with rfl | rfl | rfl | rfl <;> (unfold b4; rw [pk_vb, pk_vb])
set_option maxRecDepth 100000 in
set_option maxHeartbeats 4000000 in
theorem ra_word (I : nI1 ad N) (hN : ∀ k, k < 74 → k < N) {S : sT} {T : List Int32} {cd0 : Int32} (hA : RA G ad θ S T cd0 σ) (v : Int32) (hr : T.length + 4 ≤ 65536) : nOk G B l ad N yX12_word cX12_word 3 none 0 0 0 [.ref (ad 49), .int v] σ (fun r σ' => r = none ∧ RA G ad θ S (T ++ w4 v) cd0 σ' ∧ (∀ k, 74 ≤ k → σ' k = σ k)) := by
  refine vOk.of (by decide +kernel) (Nat.le_of_ble_eq_true rfl) ?_
  intro p e s m args below meth c C
  refine v_eq (lv' := [(0, .ref (ad 49)), (1, .int v)]) rfl rfl rfl ?_
  obtain ⟨x, hC, hcd, hd⟩ := hA
  refine v_iconst (v := nI 0) C eX12_word_0 (by decide) ?_
  refine v_istore_n (lv' := [(0, .ref (ad 49)), (1, .int v), (2, .int (nI 0))]) C eX12_word_1 rfl (by decide) [1, 2, 0] rfl ?_
  refine v_forP (fun j τ => RS G ad θ x τ ∧ (∀ k, ¬ (k = 0) → τ k = σ k) ∧ bt τ 0 = wr (bt σ 0) T.length ((List.range j).map (b4 v))) (fun j => [(0, .ref (ad 49)), (1, .int v), (2, .int (nI j))]) 4 ?_ ?_ _ ⟨hC, fun k _ => rfl, wr_nil.symm⟩
  · intro τ hI
    obtain ⟨hC1, hk1, hv1⟩ := hI
    refine v_iload_n C eX12_word_2 rfl 2 rfl ?_
    refine v_iconst (v := (4 : Int32)) C eX12_word_3 (by decide) ?_
    refine v_icmp_ge (tgt := 34) C eX12_word_4 (by decide) (fun _ => ?_) (fun h => absurd (ix_le (a := 4) (b := 4) (rfl : (4 : Int32) = nI 4) (rfl : nI 4 = nI 4) (by omega) (by omega) (by omega)) h)
    refine v_aload_n C eX12_word_34 rfl 0 rfl ?_
    refine v_dup C eX12_word_35 rfl ?_
    refine n_get C I fX12_127_X12 eX12_word_36 (hN 49 (by decide)) hC1.obj rfl ?_
    refine v_iconst (v := (4 : Int32)) C eX12_word_39 (by decide) ?_
    refine v_iadd C eX12_word_40 ?_
    refine v_natT (show ((ox τ) 3) + ((4 : Int32)) = nI (T.length + 4) from (ix_add (a := T.length) (b := 4) (hC1.i3.trans hd.1.1) (rfl : (4 : Int32) = nI 4))) ?_
    refine n_put (fs' := mO ad (upd ((ox τ)) 3 (nI (T.length + 4))) ((ot τ))) C I fX12_127_X12p eX12_word_41 (hN 49 (by decide)) hC1.obj rfl rfl (Nat.le_of_ble_eq_true rfl) rfl ?_
    refine n_vret C rfl eX12_word_44 ⟨rfl, ⟨upd x 3 (nI (T.length + 4)), hC1.upO ⟨rfl, hC1.i4, hC1.i41, hC1.i42, hC1.i43, hC1.i44, hC1.i45, hC1.i46, hC1.i47, hC1.i48⟩, hcd, ⟨⟨?_, ?_, ?_, ?_⟩, ?_⟩⟩, fun k hk => (n_ne (by omega)).trans (hk1 k (by omega))⟩
    · rw [List.length_append]; rfl
    · rw [List.length_append]; show T.length + 4 ≤ 65536; omega
    · show sl (bt τ 0) 0 (T ++ w4 v).length = T ++ w4 v
      have e : bt τ 0 = wr (bt σ 0) 0 (T ++ w4 v) := by rw [hv1, ← wr_app (f := bt σ 0) (b := 0) (c := T.length) (L := T) (L' := w4 v) (by omega), show wr (bt σ 0) 0 T = bt σ 0 from (congrArg (wr (bt σ 0) 0) hd.1.2.2.1.symm).trans wr_sl]; rfl
      rw [e, sl_wr]
    · exact nrw_app hd.1.2.2.2 nrw_w4
    · intro i hi; have q2 : bt τ 2 = bt σ 2 := bt_same (hk1 2 (by decide)); have q5 : bt τ (50 + i) = bt σ (50 + i) := bt_same (hk1 (50 + i) (by omega))
      rw [bt_same (σ := τ) (k := 2) (n_ne (by decide)), bt_same (σ := τ) (k := 50 + i) (n_ne (by omega)), q2, q5]; exact hd.2 i hi
  · intro j hj ih τ hI
    obtain ⟨hC1, hk1, hv1⟩ := hI
    refine v_iload_n C eX12_word_2 rfl 2 rfl ?_
    refine v_iconst (v := (4 : Int32)) C eX12_word_3 (by decide) ?_
    refine v_icmp_ge (tgt := 34) C eX12_word_4 (by decide) (fun h => absurd h (ix_nle (a := 4) (b := j) (rfl : (4 : Int32) = nI 4) (rfl : nI j = nI j) (by omega) (by omega) (by omega))) (fun _ => ?_)
    refine v_aload_n C eX12_word_7 rfl 0 rfl ?_
    refine n_get C I fX12_10_X12 eX12_word_8 (hN 49 (by decide)) hC1.obj rfl ?_
    refine v_aload_n C eX12_word_11 rfl 0 rfl ?_
    refine n_get C I fX12_127_X12 eX12_word_12 (hN 49 (by decide)) hC1.obj rfl ?_
    refine v_iload_n C eX12_word_15 rfl 2 rfl ?_
    refine v_iadd C eX12_word_16 ?_
    refine v_iload_n C eX12_word_17 rfl 1 rfl ?_
    refine v_bipush (v := (24 : Int32)) C eX12_word_18 (by decide) ?_
    refine v_bipush (v := (8 : Int32)) C eX12_word_20 (by decide) ?_
    refine v_iload_n C eX12_word_22 rfl 2 rfl ?_
    refine v_imul C eX12_word_23 ?_
    refine v_isub C eX12_word_24 ?_
    refine v_natT (show ((24 : Int32)) - (((8 : Int32)) * (nI j)) = nI (24 - (8 * j)) from (ix_sub (a := 24) (b := 8 * j) (rfl : (24 : Int32) = nI 24) (ix_mul (a := 8) (b := j) (rfl : (8 : Int32) = nI 8) (rfl : nI j = nI j)) (by omega))) ?_
    refine v_ishr C eX12_word_25 ?_
    refine v_i2b C eX12_word_26 ?_
    refine n_bast C I eX12_word_27 (hN 0 (by decide)) (hC1.b 0 65536 rfl (by decide)) (T.length + j) (ix_add (a := T.length) (b := j) (hC1.i3.trans hd.1.1) (rfl : nI j = nI j)) (by omega) (by decide) ?_
    refine v_iinc (lv' := [(0, .ref (ad 49)), (1, .int v), (2, .int (nI (j + 1)))]) C eX12_word_28 2 rfl (ix_inc _) (by decide) [1, 2, 0] rfl ?_
    refine v_goto (tgt := 2) C eX12_word_31 (by decide) ?_
    refine ih _ ⟨hC1.up rfl (by decide) _, fun k hk => (n_ne hk).trans (hk1 k hk), ?_⟩
    show upd (bt τ 0) (T.length + j) _ = _
    rw [hv1, List.range_succ, List.map_append]
    show _ = wr (bt σ 0) T.length (_ ++ [b4 v j])
    rw [wr_snoc]
    simp only [List.length_map, List.length_range]; rfl

set_option maxRecDepth 100000 in
set_option maxHeartbeats 4000000 in
theorem ra_feed (I : nI1 ad N) (hN : ∀ k, k < 74 → k < N) {S : sT} {T : List Int32} {cd0 : Int32} (hA : RA G ad θ S T cd0 σ) (p0 p1 p2 p3 p4 : Int32) : nOk G B l ad N yX12_feed cX12_feed 6 (some .int) 1 0 0 [.ref (ad 49), .int p0, .int p1, .int p2, .int p3, .int p4] σ (fun r σ' => r = some (.int (sp_feed S T p0 p1 p2 p3 p4).2.1) ∧ RA G ad θ ((sp_feed S T p0 p1 p2 p3 p4).2.2.1) ((sp_feed S T p0 p1 p2 p3 p4).2.2.2) ((sp_feed S T p0 p1 p2 p3 p4).1) σ' ∧ (∀ k, 74 ≤ k → σ' k = σ k)) := by
  refine vOk.of (by decide +kernel) (Nat.le_of_ble_eq_true rfl) ?_
  intro p e s m args below meth c C
  refine v_eq (lv' := [(0, .ref (ad 49)), (1, .int p0), (2, .int p1), (3, .int p2), (4, .int p3), (5, .int p4)]) rfl rfl rfl ?_
  obtain ⟨x, hC, hcd, hd⟩ := hA
  have hT := hd.1.2.1
  refine v_aload_n C eX12_feed_0 rfl 0 rfl ?_
  refine v_aload_n C eX12_feed_1 rfl 0 rfl ?_
  refine n_get C I fX12_127_X12 eX12_feed_2 (hN 49 (by decide)) hC.obj rfl ?_
  refine v_bipush (v := (20 : Int32)) C eX12_feed_5 (by decide) ?_
  refine v_iadd C eX12_feed_7 ?_
  refine v_ldc (v := (65536 : Int32)) C eX12_feed_8 vw_1097 ?_
  by_cases c : T.length + 20 ≤ 65536
  · rw [show sp_feed S T p0 p1 p2 p3 p4 = (0, nI (T.length + 20), S, T ++ w4 p0 ++ w4 p1 ++ w4 p2 ++ w4 p3 ++ w4 p4) from if_pos c]
    refine v_icmp_gt (tgt := 17) C eX12_feed_10 (by decide) (fun h => absurd h (ix_nlt (a := 65536) (b := T.length + 20) (rfl : (65536 : Int32) = nI 65536) (ix_add (a := T.length) (b := 20) (hC.i3.trans hd.1.1) (rfl : (20 : Int32) = nI 20)) (by omega) (by omega) (by omega))) (fun _ => ?_)
    refine v_iconst (v := (1 : Int32)) C eX12_feed_13 (by decide) ?_
    refine v_goto (tgt := 18) C eX12_feed_14 (by decide) ?_
    refine v_iconst (v := (1 : Int32)) C eX12_feed_18 (by decide) ?_
    refine n_callV (As := [.int ((1 : Int32)), .int ((1 : Int32))]) (rest := []) C I mX12_130 (rs_good1 I hN hC 1) (hN 49 (by decide)) hC.obj rfl (by decide) (by decide) ⟨by decide, by decide⟩ rfl (vi_k (vi_k rfl)) (Nat.le_of_ble_eq_true rfl) eX12_feed_19 (fun r σ1 hp => ?_)
    obtain ⟨rfl, hC1, hk1⟩ := hp
    refine v_if_ne (tgt := 27) C eX12_feed_22 (by decide) (fun _ => ?_) (fun h => absurd h (by decide))
    have l4 : ∀ v, (w4 v).length = 4 := fun _ => rfl
    have hA1 : RA G ad θ S T 0 σ1 := ⟨upd _ 4 0, hC1, rfl, hd.keep (fun k hk => hk1 k (by omega))⟩
    refine v_aload_n C eX12_feed_27 rfl 0 rfl ?_
    refine v_iload_n C eX12_feed_28 rfl 1 rfl ?_
    refine n_callV (As := [.int p0]) (rest := []) C I mX12_134 (ra_word I hN hA1 p0 (by omega)) (hN 49 (by decide)) hC1.obj rfl (by decide) (by decide) ⟨by decide, by decide⟩ rfl (vi_k rfl) (Nat.le_of_ble_eq_true rfl) eX12_feed_29 (fun r σ2 hp => ?_)
    obtain ⟨rfl, hA2, hk2⟩ := hp
    obtain ⟨x2, hC2, hcd2, hd2⟩ := id hA2
    refine v_aload_n C eX12_feed_32 rfl 0 rfl ?_
    refine v_iload_n C eX12_feed_33 rfl 2 rfl ?_
    refine n_callV (As := [.int p1]) (rest := []) C I mX12_134 (ra_word I hN hA2 p1 (by simp only [List.length_append, l4]; omega)) (hN 49 (by decide)) hC2.obj rfl (by decide) (by decide) ⟨by decide, by decide⟩ rfl (vi_k rfl) (Nat.le_of_ble_eq_true rfl) eX12_feed_34 (fun r σ3 hp => ?_)
    obtain ⟨rfl, hA3, hk3⟩ := hp
    obtain ⟨x3, hC3, hcd3, hd3⟩ := id hA3
    refine v_aload_n C eX12_feed_37 rfl 0 rfl ?_
    refine v_iload_n C eX12_feed_38 rfl 3 rfl ?_
    refine n_callV (As := [.int p2]) (rest := []) C I mX12_134 (ra_word I hN hA3 p2 (by simp only [List.length_append, l4]; omega)) (hN 49 (by decide)) hC3.obj rfl (by decide) (by decide) ⟨by decide, by decide⟩ rfl (vi_k rfl) (Nat.le_of_ble_eq_true rfl) eX12_feed_39 (fun r σ4 hp => ?_)
    obtain ⟨rfl, hA4, hk4⟩ := hp
    obtain ⟨x4, hC4, hcd4, hd4⟩ := id hA4
    refine v_aload_n C eX12_feed_42 rfl 0 rfl ?_
    refine v_iload C eX12_feed_43 4 rfl ?_
    refine n_callV (As := [.int p3]) (rest := []) C I mX12_134 (ra_word I hN hA4 p3 (by simp only [List.length_append, l4]; omega)) (hN 49 (by decide)) hC4.obj rfl (by decide) (by decide) ⟨by decide, by decide⟩ rfl (vi_k rfl) (Nat.le_of_ble_eq_true rfl) eX12_feed_45 (fun r σ5 hp => ?_)
    obtain ⟨rfl, hA5, hk5⟩ := hp
    obtain ⟨x5, hC5, hcd5, hd5⟩ := id hA5
    refine v_aload_n C eX12_feed_48 rfl 0 rfl ?_
    refine v_iload C eX12_feed_49 5 rfl ?_
    refine n_callV (As := [.int p4]) (rest := []) C I mX12_134 (ra_word I hN hA5 p4 (by simp only [List.length_append, l4]; omega)) (hN 49 (by decide)) hC5.obj rfl (by decide) (by decide) ⟨by decide, by decide⟩ rfl (vi_k rfl) (Nat.le_of_ble_eq_true rfl) eX12_feed_51 (fun r σ6 hp => ?_)
    obtain ⟨rfl, hA6, hk6⟩ := hp
    obtain ⟨x6, hC6, hcd6, hd6⟩ := id hA6
    refine v_aload_n C eX12_feed_54 rfl 0 rfl ?_
    refine n_get C I fX12_127_X12 eX12_feed_55 (hN 49 (by decide)) hC6.obj rfl ?_
    refine v_natT (show (ox σ6) 3 = nI (T.length + 20) from hC6.i3.trans (hd6.1.1.trans (by simp only [List.length_append, l4]))) ?_
    exact n_iret C rfl eX12_feed_58 ⟨rfl, hA6, fun k hk => (hk6 k hk).trans ((hk5 k hk).trans ((hk4 k hk).trans ((hk3 k hk).trans ((hk2 k hk).trans (hk1 k (by omega))))))⟩
  · rw [show sp_feed S T p0 p1 p2 p3 p4 = (1, 0, S, T) from if_neg c]
    refine v_icmp_gt (tgt := 17) C eX12_feed_10 (by decide) (fun _ => ?_) (fun h => absurd (ix_lt (a := 65536) (b := T.length + 20) (rfl : (65536 : Int32) = nI 65536) (ix_add (a := T.length) (b := 20) (hC.i3.trans hd.1.1) (rfl : (20 : Int32) = nI 20)) (by omega) (by omega) (by omega)) h)
    refine v_iconst (v := (0 : Int32)) C eX12_feed_17 (by decide) ?_
    refine v_iconst (v := (1 : Int32)) C eX12_feed_18 (by decide) ?_
    refine n_callV (As := [.int ((0 : Int32)), .int ((1 : Int32))]) (rest := []) C I mX12_130 (rs_good0 I hN hC 1) (hN 49 (by decide)) hC.obj rfl (by decide) (by decide) ⟨by decide, by decide⟩ rfl (vi_k (vi_k rfl)) (Nat.le_of_ble_eq_true rfl) eX12_feed_19 (fun r σ1 hp => ?_)
    obtain ⟨rfl, hC1, hk1⟩ := hp
    refine v_if_ne (tgt := 27) C eX12_feed_22 (by decide) (fun h => absurd (by decide) h) (fun _ => ?_)
    refine v_iconst (v := (0 : Int32)) C eX12_feed_25 (by decide) ?_
    exact n_iret C rfl eX12_feed_26 ⟨rfl, ⟨upd _ 4 1, hC1, rfl, hd.keep (fun k hk => hk1 k (by omega))⟩, fun k hk => hk1 k (by omega)⟩

theorem sl_tk {f : Nat → Int32} {n m : Nat} (h : n ≤ m) : sl f 0 n = (sl f 0 m).take n := by
  have : m = n + (m - n) := by omega
  rw [this, sl_app, List.take_left' sl_len]
set_option maxRecDepth 100000 in
set_option maxHeartbeats 4000000 in
theorem ra_end (I : nI1 ad N) (hN : ∀ k, k < 74 → k < N) {S : sT} {T : List Int32} {cd0 : Int32} (hA : RA G ad θ S T cd0 σ) (p0 p1 : Int32) : nOk G B l ad N yX12_end cX12_end 4 (some .int) 1 0 0 [.ref (ad 49), .int p0, .int p1] σ (fun r σ' => r = some (.int (sp_end S T p0 p1).2.1) ∧ RA G ad θ ((sp_end S T p0 p1).2.2.1) ((sp_end S T p0 p1).2.2.2) ((sp_end S T p0 p1).1) σ' ∧ (∀ k, 74 ≤ k → σ' k = σ k)) := by
  refine vOk.of (by decide +kernel) (Nat.le_of_ble_eq_true rfl) ?_
  intro p e s m args below meth c C
  refine v_eq (lv' := [(0, .ref (ad 49)), (1, .int p0), (2, .int p1)]) rfl rfl rfl ?_
  obtain ⟨x, hC, hcd, hd⟩ := hA
  refine v_aload_n C eX12_end_0 rfl 0 rfl ?_
  refine v_iload_n C eX12_end_1 rfl 1 rfl ?_
  refine v_iconst (v := (0 : Int32)) C eX12_end_2 (by decide) ?_
  refine v_bipush (v := (7 : Int32)) C eX12_end_3 (by decide) ?_
  refine n_callS (av := [.int p0, .int ((0 : Int32)), .int ((7 : Int32))]) (rest := [.ref (ad 49)]) C mX12_138 (c_in p0 ((0 : Int32)) ((7 : Int32))) rfl (by decide) (by decide) ⟨by decide, by decide⟩ rfl (vi_k (vi_k (vi_k rfl))) (Nat.le_of_ble_eq_true rfl) eX12_end_5 (fun r ρ hp => ?_)
  obtain ⟨rfl, hρ⟩ := hp
  rw [hρ]
  clear hρ ρ
  by_cases c1 : 0 ≤ p0 ∧ p0 ≤ 7
  · refine v_natT (show (if (0 : Int32) ≤ p0 ∧ p0 ≤ (7 : Int32) then (1 : Int32) else 0) = 1 from if_pos c1) ?_
    refine v_if_eq (tgt := 25) C eX12_end_8 (by decide) (fun h => absurd h (by decide)) (fun _ => ?_)
    refine v_iload_n C eX12_end_11 rfl 2 rfl ?_
    refine v_iconst (v := (0 : Int32)) C eX12_end_12 (by decide) ?_
    refine v_ldc (v := (65536 : Int32)) C eX12_end_13 vw_1097 ?_
    refine n_callS (av := [.int p1, .int ((0 : Int32)), .int ((65536 : Int32))]) (rest := [.ref (ad 49)]) C mX12_138 (c_in p1 ((0 : Int32)) ((65536 : Int32))) rfl (by decide) (by decide) ⟨by decide, by decide⟩ rfl (vi_k (vi_k (vi_k rfl))) (Nat.le_of_ble_eq_true rfl) eX12_end_15 (fun r ρ hp => ?_)
    obtain ⟨rfl, hρ⟩ := hp
    rw [hρ]
    clear hρ ρ
    by_cases c2 : 0 ≤ p1 ∧ p1 ≤ (65536 : Int32)
    · refine v_natT (show (if (0 : Int32) ≤ p1 ∧ p1 ≤ (65536 : Int32) then (1 : Int32) else 0) = 1 from if_pos c2) ?_
      refine v_if_eq (tgt := 25) C eX12_end_18 (by decide) (fun h => absurd h (by decide)) (fun _ => ?_)
      refine v_iconst (v := (1 : Int32)) C eX12_end_21 (by decide) ?_
      refine v_goto (tgt := 26) C eX12_end_22 (by decide) ?_
      refine v_iconst (v := (1 : Int32)) C eX12_end_26 (by decide) ?_
      refine n_callV (As := [.int ((1 : Int32)), .int ((1 : Int32))]) (rest := []) C I mX12_130 (rs_good1 I hN hC 1) (hN 49 (by decide)) hC.obj rfl (by decide) (by decide) ⟨by decide, by decide⟩ rfl (vi_k (vi_k rfl)) (Nat.le_of_ble_eq_true rfl) eX12_end_27 (fun r σ1 hp => ?_)
      obtain ⟨rfl, hC1, hk1⟩ := hp
      refine v_if_eq (tgt := 54) C eX12_end_30 (by decide) (fun h => absurd h (by decide)) (fun _ => ?_)
      obtain ⟨hp, hpe⟩ := ixN_of (n := 7) rfl c1
      obtain ⟨hq, hqe⟩ := ixN_of (n := 65536) rfl c2
      have hT := hd.1.2.1
      refine v_aload_n C eX12_end_33 rfl 0 rfl ?_
      refine v_iload_n C eX12_end_34 rfl 2 rfl ?_
      refine v_aload_n C eX12_end_35 rfl 0 rfl ?_
      refine n_get C I fX12_127_X12 eX12_end_36 (hN 49 (by decide)) hC1.obj rfl ?_
      by_cases c3 : ixN p1 ≤ T.length
      · rw [show sp_end S T p0 p1 = (0, p1, seti S (ixN p0) (T.take (ixN p1)), []) from (if_pos ⟨c1, c2⟩).trans (if_pos c3)]
        refine v_icmp_gt (tgt := 46) C eX12_end_39 (by decide) (fun h => absurd h (ix_nlt (a := T.length) (b := ixN p1) (hC1.i3.trans hd.1.1) hqe (by omega) (by omega) (by omega))) (fun _ => ?_)
        refine v_iconst (v := (1 : Int32)) C eX12_end_42 (by decide) ?_
        refine v_goto (tgt := 47) C eX12_end_43 (by decide) ?_
        refine v_iconst (v := (2 : Int32)) C eX12_end_47 (by decide) ?_
        refine n_callV (As := [.int ((1 : Int32)), .int ((2 : Int32))]) (rest := []) C I mX12_130 (rs_good1 I hN hC1 2) (hN 49 (by decide)) hC1.obj rfl (by decide) (by decide) ⟨by decide, by decide⟩ rfl (vi_k (vi_k rfl)) (Nat.le_of_ble_eq_true rfl) eX12_end_48 (fun r σ2 hp => ?_)
        obtain ⟨rfl, hC2, hk2⟩ := hp
        refine v_if_ne (tgt := 56) C eX12_end_51 (by decide) (fun _ => ?_) (fun h => absurd h (by decide))
        have hr0 : rLn (50 + ixN p0) = 65536 := rLn_slot _ (by omega)
        generalize hn0 : ixN p0 = s0 at hp hpe hr0
        refine v_iconst (v := nI 0) C eX12_end_56 (by decide) ?_
        refine v_istore_n (lv' := [(0, .ref (ad 49)), (1, .int p0), (2, .int p1), (3, .int (nI 0))]) C eX12_end_57 rfl (by decide) [1, 2, 3, 0] rfl ?_
        have kk : ∀ k, ¬ (k = 49) → σ2 k = σ k := fun k hk => (hk2 k hk).trans (hk1 k hk)
        refine v_forP (fun j τ => RS G ad θ (upd (upd x 4 0) 4 0) τ ∧ (∀ k, ¬ (k = 50 + s0) → τ k = σ2 k) ∧ bt τ (50 + s0) = wr (bt σ (50 + s0)) 0 (sl (bt σ 0) 0 j)) (fun j => [(0, .ref (ad 49)), (1, .int p0), (2, .int p1), (3, .int (nI j))]) (ixN p1) ?_ ?_ _ ⟨hC2, fun k _ => rfl, (bt_same (kk (50 + s0) (by omega))).trans wr_nil.symm⟩
        · intro τ hI
          obtain ⟨hC3, hk3, hv3⟩ := hI
          refine v_iload_n C eX12_end_58 rfl 3 rfl ?_
          refine v_iload_n C eX12_end_59 rfl 2 rfl ?_
          refine v_icmp_ge (tgt := 83) C eX12_end_60 (by decide) (fun _ => ?_) (fun h => absurd (ix_le (a := ixN p1) (b := ixN p1) hqe (rfl : nI (ixN p1) = nI (ixN p1)) (by omega) (by omega) (by omega)) h)
          refine v_aload_n C eX12_end_83 rfl 0 rfl ?_
          refine n_get C I fX12_19_X12 eX12_end_84 (hN 49 (by decide)) hC3.obj rfl ?_
          refine v_iload_n C eX12_end_87 rfl 1 rfl ?_
          refine v_iload_n C eX12_end_88 rfl 2 rfl ?_
          refine n_iast C I eX12_end_89 (hN 2 (by decide)) hC3.len s0 hpe (by omega) (by decide) ?_
          refine v_aload_n C eX12_end_90 rfl 0 rfl ?_
          refine v_iconst (v := (0 : Int32)) C eX12_end_91 (by decide) ?_
          refine n_put (fs' := mO ad (upd ((ox τ)) 3 ((0 : Int32))) ((ot τ))) C I fX12_127_X12p eX12_end_92 (hN 49 (by decide)) hC3.obj rfl rfl (Nat.le_of_ble_eq_true rfl) rfl ?_
          refine v_iload_n C eX12_end_95 rfl 2 rfl ?_
          have hlen : (T.take (ixN p1)).length = ixN p1 := by rw [List.length_take]; omega
          refine n_iret C rfl eX12_end_96 ⟨rfl, ⟨upd (upd (upd x 4 0) 4 0) 3 0, (hC3.upI (Or.inl ⟨rfl, rfl⟩) _).upO ⟨rfl, hC3.i4, hC3.i41, hC3.i42, hC3.i43, hC3.i44, hC3.i45, hC3.i46, hC3.i47, hC3.i48⟩, rfl, ?_⟩, fun k hk => (n_ne (by omega)).trans ((n_ne (by omega)).trans ((hk3 k (by omega)).trans (kk k (by omega))))⟩
          have hd' : RAd S [] σ 0 := ⟨⟨rfl, Nat.zero_le _, rfl, nrw_nil⟩, hd.2⟩
          rw [← hn0]; refine hd'.set (L := T.take (ixN p1)) (fun k hk => (n_ne (by omega)).trans ((n_ne (by omega)).trans ((hk3 k (by omega)).trans (kk k (by omega))))) ?_ (by rw [hlen]; omega) ?_ (fun v hv => hd.1.2.2.2 v (List.mem_of_mem_take hv))
          · rw [bt_same (k := 2) (n_ne (by decide)), bt_I (G := G) (n := 8) n_self, hlen, hn0, bt_same (hk3 2 (by omega)), bt_same (kk 2 (by decide)), ← hqe]
          · rw [hn0, bt_same (k := 50 + s0) (n_ne (by omega)), bt_same (k := 50 + s0) (n_ne (by omega)), hv3, hlen, sl_wr' sl_len, ← hd.1.2.2.1]; exact sl_tk (by omega)
        · intro j hj ih τ hI
          obtain ⟨hC3, hk3, hv3⟩ := hI
          refine v_iload_n C eX12_end_58 rfl 3 rfl ?_
          refine v_iload_n C eX12_end_59 rfl 2 rfl ?_
          refine v_icmp_ge (tgt := 83) C eX12_end_60 (by decide) (fun h => absurd h (ix_nle (a := ixN p1) (b := j) hqe (rfl : nI j = nI j) (by omega) (by omega) (by omega))) (fun _ => ?_)
          refine v_aload_n C eX12_end_63 rfl 0 rfl ?_
          refine n_get C I fX12_16_X12 eX12_end_64 (hN 49 (by decide)) hC3.obj rfl ?_
          refine v_iload_n C eX12_end_67 rfl 1 rfl ?_
          refine n_aald (b := ad (50 + s0)) C I eX12_end_68 (hN 1 (by decide)) hC3.slot s0 hpe (by omega) (by decide) (eRf_at (by omega)) ?_
          refine v_iload_n C eX12_end_69 rfl 3 rfl ?_
          refine v_aload_n C eX12_end_70 rfl 0 rfl ?_
          refine n_get C I fX12_10_X12 eX12_end_71 (hN 49 (by decide)) hC3.obj rfl ?_
          refine v_iload_n C eX12_end_74 rfl 3 rfl ?_
          refine n_bald C I eX12_end_75 (hN 0 (by decide)) (hC3.b 0 65536 rfl (by decide)) j (rfl : nI j = nI j) (by omega) (by decide) ?_
          refine n_bast C I eX12_end_76 (hN ((50 + s0)) (rLn_74 (Nat.lt_of_lt_of_eq (by decide) hr0.symm))) (hC3.b ((50 + s0)) 65536 hr0 (by decide)) j (rfl : nI j = nI j) (by omega) (by decide) ?_
          refine v_iinc (lv' := [(0, .ref (ad 49)), (1, .int p0), (2, .int p1), (3, .int (nI (j + 1)))]) C eX12_end_77 3 rfl (ix_inc _) (by decide) [1, 2, 3, 0] rfl ?_
          refine v_goto (tgt := 58) C eX12_end_80 (by decide) ?_
          refine ih _ ⟨hC3.up hr0 (by decide) _, fun k hk => (n_ne hk).trans (hk3 k hk), ?_⟩
          have hnj : vp_nar .byte (bt σ 0 j) = bt σ 0 j := by have := nrw_sl.mp (show nrw (sl (bt σ 0) 0 T.length) from by rw [hd.1.2.2.1]; exact hd.1.2.2.2) j (by omega); rwa [Nat.zero_add] at this
          rw [bt_B (G := G) (n := 65536) n_self, hv3, sl_s, wr_snoc, sl_len, bt_same (hk3 0 (by omega)), bt_same (kk 0 (by decide)), hnj, Nat.zero_add]
      · rw [show sp_end S T p0 p1 = (2, 0, S, T) from (if_pos ⟨c1, c2⟩).trans (if_neg c3)]
        refine v_icmp_gt (tgt := 46) C eX12_end_39 (by decide) (fun _ => ?_) (fun h => absurd (ix_lt (a := T.length) (b := ixN p1) (hC1.i3.trans hd.1.1) hqe (by omega) (by omega) (by omega)) h)
        refine v_iconst (v := (0 : Int32)) C eX12_end_46 (by decide) ?_
        refine v_iconst (v := (2 : Int32)) C eX12_end_47 (by decide) ?_
        refine n_callV (As := [.int ((0 : Int32)), .int ((2 : Int32))]) (rest := []) C I mX12_130 (rs_good0 I hN hC1 2) (hN 49 (by decide)) hC1.obj rfl (by decide) (by decide) ⟨by decide, by decide⟩ rfl (vi_k (vi_k rfl)) (Nat.le_of_ble_eq_true rfl) eX12_end_48 (fun r σ2 hp => ?_)
        obtain ⟨rfl, hC2, hk2⟩ := hp
        refine v_if_ne (tgt := 56) C eX12_end_51 (by decide) (fun h => absurd (by decide) h) (fun _ => ?_)
        refine v_iconst (v := (0 : Int32)) C eX12_end_54 (by decide) ?_
        exact n_iret C rfl eX12_end_55 ⟨rfl, ⟨upd _ 4 2, hC2, rfl, hd.keep (fun k hk => (hk2 k (by omega)).trans (hk1 k (by omega)))⟩, fun k hk => (hk2 k (by omega)).trans (hk1 k (by omega))⟩
    · refine v_natT (show (if (0 : Int32) ≤ p1 ∧ p1 ≤ (65536 : Int32) then (1 : Int32) else 0) = 0 from if_neg c2) ?_
      refine v_if_eq (tgt := 25) C eX12_end_18 (by decide) (fun _ => ?_) (fun h => absurd rfl h)
      refine v_iconst (v := (0 : Int32)) C eX12_end_25 (by decide) ?_
      refine v_iconst (v := (1 : Int32)) C eX12_end_26 (by decide) ?_
      refine n_callV (As := [.int ((0 : Int32)), .int ((1 : Int32))]) (rest := []) C I mX12_130 (rs_good0 I hN hC 1) (hN 49 (by decide)) hC.obj rfl (by decide) (by decide) ⟨by decide, by decide⟩ rfl (vi_k (vi_k rfl)) (Nat.le_of_ble_eq_true rfl) eX12_end_27 (fun r σ1 hp => ?_)
      obtain ⟨rfl, hC1, hk1⟩ := hp
      rw [show sp_end S T p0 p1 = (1, 0, S, T) from if_neg (fun q => c2 q.2)]
      refine v_if_eq (tgt := 54) C eX12_end_30 (by decide) (fun _ => ?_) (fun h => absurd rfl h)
      refine v_iconst (v := (0 : Int32)) C eX12_end_54 (by decide) ?_
      exact n_iret C rfl eX12_end_55 ⟨rfl, ⟨upd _ 4 1, hC1, rfl, hd.keep (fun k hk => hk1 k (by omega))⟩, fun k hk => hk1 k (by omega)⟩
  · refine v_natT (show (if (0 : Int32) ≤ p0 ∧ p0 ≤ (7 : Int32) then (1 : Int32) else 0) = 0 from if_neg c1) ?_
    refine v_if_eq (tgt := 25) C eX12_end_8 (by decide) (fun _ => ?_) (fun h => absurd rfl h)
    refine v_iconst (v := (0 : Int32)) C eX12_end_25 (by decide) ?_
    refine v_iconst (v := (1 : Int32)) C eX12_end_26 (by decide) ?_
    refine n_callV (As := [.int ((0 : Int32)), .int ((1 : Int32))]) (rest := []) C I mX12_130 (rs_good0 I hN hC 1) (hN 49 (by decide)) hC.obj rfl (by decide) (by decide) ⟨by decide, by decide⟩ rfl (vi_k (vi_k rfl)) (Nat.le_of_ble_eq_true rfl) eX12_end_27 (fun r σ1 hp => ?_)
    obtain ⟨rfl, hC1, hk1⟩ := hp
    rw [show sp_end S T p0 p1 = (1, 0, S, T) from if_neg (fun q => c1 q.1)]
    refine v_if_eq (tgt := 54) C eX12_end_30 (by decide) (fun _ => ?_) (fun h => absurd rfl h)
    refine v_iconst (v := (0 : Int32)) C eX12_end_54 (by decide) ?_
    exact n_iret C rfl eX12_end_55 ⟨rfl, ⟨upd _ 4 1, hC1, rfl, hd.keep (fun k hk => hk1 k (by omega))⟩, fun k hk => hk1 k (by omega)⟩

end M30
