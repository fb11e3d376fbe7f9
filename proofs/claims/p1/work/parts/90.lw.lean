theorem eL_feed_0 : vD cL_feed 0 (.aload 6) 2 2 := ⟨by decide +kernel, rfl⟩
theorem eL_feed_2 : vD cL_feed 2 (.iconst 0) 1 3 := ⟨by decide +kernel, rfl⟩
theorem eL_feed_3 : vD cL_feed 3 (.aload_n 0) 1 4 := ⟨by decide +kernel, rfl⟩
theorem eL_feed_4 : vD cL_feed 4 (.iload_n 1) 1 5 := ⟨by decide +kernel, rfl⟩
theorem eL_feed_5 : vD cL_feed 5 (.iload_n 2) 1 6 := ⟨by decide +kernel, rfl⟩
theorem eL_feed_6 : vD cL_feed 6 (.iload_n 3) 1 7 := ⟨by decide +kernel, rfl⟩
theorem eL_feed_7 : vD cL_feed 7 (.iload 4) 2 9 := ⟨by decide +kernel, rfl⟩
theorem eL_feed_9 : vD cL_feed 9 (.iload 5) 2 11 := ⟨by decide +kernel, rfl⟩
theorem eL_feed_11 : vD cL_feed 11 (.invokevirtual 7) 3 14 := ⟨by decide +kernel, rfl⟩
theorem eL_feed_14 : vD cL_feed 14 .i2l 1 15 := ⟨by decide +kernel, rfl⟩
theorem eL_feed_15 : vD cL_feed 15 .lastore 1 16 := ⟨by decide +kernel, rfl⟩
theorem eL_feed_16 : vD cL_feed 16 (.goto 7) 3 19 := ⟨by decide +kernel, rfl⟩
theorem eL_feed_19 : vD cL_feed 19 (.astore 7) 2 21 := ⟨by decide +kernel, rfl⟩
theorem eL_feed_21 : vD cL_feed 21 (.iconst 1) 1 22 := ⟨by decide +kernel, rfl⟩
theorem eL_feed_22 : vD cL_feed 22 .ireturn 1 23 := ⟨by decide +kernel, rfl⟩
theorem eL_feed_23 : vD cL_feed 23 (.iconst 0) 1 24 := ⟨by decide +kernel, rfl⟩
theorem eL_feed_24 : vD cL_feed 24 .ireturn 1 25 := ⟨by decide +kernel, rfl⟩

theorem eL_end_0 : vD cL_end 0 (.aload_n 3) 1 1 := ⟨by decide +kernel, rfl⟩
theorem eL_end_1 : vD cL_end 1 (.iconst 0) 1 2 := ⟨by decide +kernel, rfl⟩
theorem eL_end_2 : vD cL_end 2 (.aload_n 0) 1 3 := ⟨by decide +kernel, rfl⟩
theorem eL_end_3 : vD cL_end 3 (.iload_n 1) 1 4 := ⟨by decide +kernel, rfl⟩
theorem eL_end_4 : vD cL_end 4 (.iload_n 2) 1 5 := ⟨by decide +kernel, rfl⟩
theorem eL_end_5 : vD cL_end 5 (.invokevirtual 15) 3 8 := ⟨by decide +kernel, rfl⟩
theorem eL_end_8 : vD cL_end 8 .i2l 1 9 := ⟨by decide +kernel, rfl⟩
theorem eL_end_9 : vD cL_end 9 .lastore 1 10 := ⟨by decide +kernel, rfl⟩
theorem eL_end_10 : vD cL_end 10 (.goto 11) 3 13 := ⟨by decide +kernel, rfl⟩
theorem eL_end_13 : vD cL_end 13 (.astore 4) 2 15 := ⟨by decide +kernel, rfl⟩
theorem eL_end_15 : vD cL_end 15 (.iconst 1) 1 16 := ⟨by decide +kernel, rfl⟩
theorem eL_end_16 : vD cL_end 16 .ireturn 1 17 := ⟨by decide +kernel, rfl⟩
theorem eL_end_17 : vD cL_end 17 (.astore 4) 2 19 := ⟨by decide +kernel, rfl⟩
theorem eL_end_19 : vD cL_end 19 (.iconst 2) 1 20 := ⟨by decide +kernel, rfl⟩
theorem eL_end_20 : vD cL_end 20 .ireturn 1 21 := ⟨by decide +kernel, rfl⟩
theorem eL_end_21 : vD cL_end 21 (.iconst 0) 1 22 := ⟨by decide +kernel, rfl⟩
theorem eL_end_22 : vD cL_end 22 .ireturn 1 23 := ⟨by decide +kernel, rfl⟩

theorem eL_copy_0 : vD cL_copy 0 (.aload_n 3) 1 1 := ⟨by decide +kernel, rfl⟩
theorem eL_copy_1 : vD cL_copy 1 (.iconst 0) 1 2 := ⟨by decide +kernel, rfl⟩
theorem eL_copy_2 : vD cL_copy 2 (.aload_n 0) 1 3 := ⟨by decide +kernel, rfl⟩
theorem eL_copy_3 : vD cL_copy 3 (.iload_n 1) 1 4 := ⟨by decide +kernel, rfl⟩
theorem eL_copy_4 : vD cL_copy 4 (.iload_n 2) 1 5 := ⟨by decide +kernel, rfl⟩
theorem eL_copy_5 : vD cL_copy 5 (.invokevirtual 21) 3 8 := ⟨by decide +kernel, rfl⟩
theorem eL_copy_8 : vD cL_copy 8 .i2l 1 9 := ⟨by decide +kernel, rfl⟩
theorem eL_copy_9 : vD cL_copy 9 .lastore 1 10 := ⟨by decide +kernel, rfl⟩
theorem eL_copy_10 : vD cL_copy 10 (.goto 7) 3 13 := ⟨by decide +kernel, rfl⟩
theorem eL_copy_13 : vD cL_copy 13 (.astore 4) 2 15 := ⟨by decide +kernel, rfl⟩
theorem eL_copy_15 : vD cL_copy 15 (.iconst 1) 1 16 := ⟨by decide +kernel, rfl⟩
theorem eL_copy_16 : vD cL_copy 16 .ireturn 1 17 := ⟨by decide +kernel, rfl⟩
theorem eL_copy_17 : vD cL_copy 17 (.iconst 0) 1 18 := ⟨by decide +kernel, rfl⟩
theorem eL_copy_18 : vD cL_copy 18 .ireturn 1 19 := ⟨by decide +kernel, rfl⟩

theorem eL_resize_0 : vD cL_resize 0 (.aload_n 3) 1 1 := ⟨by decide +kernel, rfl⟩
theorem eL_resize_1 : vD cL_resize 1 (.iconst 0) 1 2 := ⟨by decide +kernel, rfl⟩
theorem eL_resize_2 : vD cL_resize 2 (.aload_n 0) 1 3 := ⟨by decide +kernel, rfl⟩
theorem eL_resize_3 : vD cL_resize 3 (.iload_n 1) 1 4 := ⟨by decide +kernel, rfl⟩
theorem eL_resize_4 : vD cL_resize 4 (.iload_n 2) 1 5 := ⟨by decide +kernel, rfl⟩
theorem eL_resize_5 : vD cL_resize 5 (.invokevirtual 24) 3 8 := ⟨by decide +kernel, rfl⟩
theorem eL_resize_8 : vD cL_resize 8 .i2l 1 9 := ⟨by decide +kernel, rfl⟩
theorem eL_resize_9 : vD cL_resize 9 .lastore 1 10 := ⟨by decide +kernel, rfl⟩
theorem eL_resize_10 : vD cL_resize 10 (.goto 7) 3 13 := ⟨by decide +kernel, rfl⟩
theorem eL_resize_13 : vD cL_resize 13 (.astore 4) 2 15 := ⟨by decide +kernel, rfl⟩
theorem eL_resize_15 : vD cL_resize 15 (.iconst 1) 1 16 := ⟨by decide +kernel, rfl⟩
theorem eL_resize_16 : vD cL_resize 16 .ireturn 1 17 := ⟨by decide +kernel, rfl⟩
theorem eL_resize_17 : vD cL_resize 17 (.iconst 0) 1 18 := ⟨by decide +kernel, rfl⟩
theorem eL_resize_18 : vD cL_resize 18 .ireturn 1 19 := ⟨by decide +kernel, rfl⟩

theorem eL_alter_0 : vD cL_alter 0 (.aload 4) 2 2 := ⟨by decide +kernel, rfl⟩
theorem eL_alter_2 : vD cL_alter 2 (.iconst 0) 1 3 := ⟨by decide +kernel, rfl⟩
theorem eL_alter_3 : vD cL_alter 3 (.aload_n 0) 1 4 := ⟨by decide +kernel, rfl⟩
theorem eL_alter_4 : vD cL_alter 4 (.iload_n 1) 1 5 := ⟨by decide +kernel, rfl⟩
theorem eL_alter_5 : vD cL_alter 5 (.iload_n 2) 1 6 := ⟨by decide +kernel, rfl⟩
theorem eL_alter_6 : vD cL_alter 6 (.iload_n 3) 1 7 := ⟨by decide +kernel, rfl⟩
theorem eL_alter_7 : vD cL_alter 7 (.invokevirtual 27) 3 10 := ⟨by decide +kernel, rfl⟩
theorem eL_alter_10 : vD cL_alter 10 .i2l 1 11 := ⟨by decide +kernel, rfl⟩
theorem eL_alter_11 : vD cL_alter 11 .lastore 1 12 := ⟨by decide +kernel, rfl⟩
theorem eL_alter_12 : vD cL_alter 12 (.goto 11) 3 15 := ⟨by decide +kernel, rfl⟩
theorem eL_alter_15 : vD cL_alter 15 (.astore 5) 2 17 := ⟨by decide +kernel, rfl⟩
theorem eL_alter_17 : vD cL_alter 17 (.iconst 1) 1 18 := ⟨by decide +kernel, rfl⟩
theorem eL_alter_18 : vD cL_alter 18 .ireturn 1 19 := ⟨by decide +kernel, rfl⟩
theorem eL_alter_19 : vD cL_alter 19 (.astore 5) 2 21 := ⟨by decide +kernel, rfl⟩
theorem eL_alter_21 : vD cL_alter 21 (.iconst 2) 1 22 := ⟨by decide +kernel, rfl⟩
theorem eL_alter_22 : vD cL_alter 22 .ireturn 1 23 := ⟨by decide +kernel, rfl⟩
theorem eL_alter_23 : vD cL_alter 23 (.iconst 0) 1 24 := ⟨by decide +kernel, rfl⟩
theorem eL_alter_24 : vD cL_alter 24 .ireturn 1 25 := ⟨by decide +kernel, rfl⟩

theorem eL_length_0 : vD cL_length 0 (.aload_n 2) 1 1 := ⟨by decide +kernel, rfl⟩
theorem eL_length_1 : vD cL_length 1 (.iconst 0) 1 2 := ⟨by decide +kernel, rfl⟩
theorem eL_length_2 : vD cL_length 2 (.aload_n 0) 1 3 := ⟨by decide +kernel, rfl⟩
theorem eL_length_3 : vD cL_length 3 (.iload_n 1) 1 4 := ⟨by decide +kernel, rfl⟩
theorem eL_length_4 : vD cL_length 4 (.invokevirtual 31) 3 7 := ⟨by decide +kernel, rfl⟩
theorem eL_length_7 : vD cL_length 7 .i2l 1 8 := ⟨by decide +kernel, rfl⟩
theorem eL_length_8 : vD cL_length 8 .lastore 1 9 := ⟨by decide +kernel, rfl⟩
theorem eL_length_9 : vD cL_length 9 (.goto 6) 3 12 := ⟨by decide +kernel, rfl⟩
theorem eL_length_12 : vD cL_length 12 (.astore_n 3) 1 13 := ⟨by decide +kernel, rfl⟩
theorem eL_length_13 : vD cL_length 13 (.iconst 1) 1 14 := ⟨by decide +kernel, rfl⟩
theorem eL_length_14 : vD cL_length 14 .ireturn 1 15 := ⟨by decide +kernel, rfl⟩
theorem eL_length_15 : vD cL_length 15 (.iconst 0) 1 16 := ⟨by decide +kernel, rfl⟩
theorem eL_length_16 : vD cL_length 16 .ireturn 1 17 := ⟨by decide +kernel, rfl⟩

theorem eL_word_0 : vD cL_word 0 (.aload_n 3) 1 1 := ⟨by decide +kernel, rfl⟩
theorem eL_word_1 : vD cL_word 1 (.iconst 0) 1 2 := ⟨by decide +kernel, rfl⟩
theorem eL_word_2 : vD cL_word 2 (.aload_n 0) 1 3 := ⟨by decide +kernel, rfl⟩
theorem eL_word_3 : vD cL_word 3 (.iload_n 1) 1 4 := ⟨by decide +kernel, rfl⟩
theorem eL_word_4 : vD cL_word 4 (.iload_n 2) 1 5 := ⟨by decide +kernel, rfl⟩
theorem eL_word_5 : vD cL_word 5 (.invokevirtual 35) 3 8 := ⟨by decide +kernel, rfl⟩
theorem eL_word_8 : vD cL_word 8 .lastore 1 9 := ⟨by decide +kernel, rfl⟩
theorem eL_word_9 : vD cL_word 9 (.goto 11) 3 12 := ⟨by decide +kernel, rfl⟩
theorem eL_word_12 : vD cL_word 12 (.astore 4) 2 14 := ⟨by decide +kernel, rfl⟩
theorem eL_word_14 : vD cL_word 14 (.iconst 1) 1 15 := ⟨by decide +kernel, rfl⟩
theorem eL_word_15 : vD cL_word 15 .ireturn 1 16 := ⟨by decide +kernel, rfl⟩
theorem eL_word_16 : vD cL_word 16 (.astore 4) 2 18 := ⟨by decide +kernel, rfl⟩
theorem eL_word_18 : vD cL_word 18 (.iconst 2) 1 19 := ⟨by decide +kernel, rfl⟩
theorem eL_word_19 : vD cL_word 19 .ireturn 1 20 := ⟨by decide +kernel, rfl⟩
theorem eL_word_20 : vD cL_word 20 (.iconst 0) 1 21 := ⟨by decide +kernel, rfl⟩
theorem eL_word_21 : vD cL_word 21 .ireturn 1 22 := ⟨by decide +kernel, rfl⟩

theorem eL_same_0 : vD cL_same 0 (.aload_n 3) 1 1 := ⟨by decide +kernel, rfl⟩
theorem eL_same_1 : vD cL_same 1 (.iconst 0) 1 2 := ⟨by decide +kernel, rfl⟩
theorem eL_same_2 : vD cL_same 2 (.aload_n 0) 1 3 := ⟨by decide +kernel, rfl⟩
theorem eL_same_3 : vD cL_same 3 (.iload_n 1) 1 4 := ⟨by decide +kernel, rfl⟩
theorem eL_same_4 : vD cL_same 4 (.iload_n 2) 1 5 := ⟨by decide +kernel, rfl⟩
theorem eL_same_5 : vD cL_same 5 (.invokevirtual 39) 3 8 := ⟨by decide +kernel, rfl⟩
theorem eL_same_8 : vD cL_same 8 (.ifCond .eq 7) 3 11 := ⟨by decide +kernel, rfl⟩
theorem eL_same_11 : vD cL_same 11 (.lconst 1) 1 12 := ⟨by decide +kernel, rfl⟩
theorem eL_same_12 : vD cL_same 12 (.goto 4) 3 15 := ⟨by decide +kernel, rfl⟩
theorem eL_same_15 : vD cL_same 15 (.lconst 0) 1 16 := ⟨by decide +kernel, rfl⟩
theorem eL_same_16 : vD cL_same 16 .lastore 1 17 := ⟨by decide +kernel, rfl⟩
theorem eL_same_17 : vD cL_same 17 (.goto 7) 3 20 := ⟨by decide +kernel, rfl⟩
theorem eL_same_20 : vD cL_same 20 (.astore 4) 2 22 := ⟨by decide +kernel, rfl⟩
theorem eL_same_22 : vD cL_same 22 (.iconst 1) 1 23 := ⟨by decide +kernel, rfl⟩
theorem eL_same_23 : vD cL_same 23 .ireturn 1 24 := ⟨by decide +kernel, rfl⟩
theorem eL_same_24 : vD cL_same 24 (.iconst 0) 1 25 := ⟨by decide +kernel, rfl⟩
theorem eL_same_25 : vD cL_same 25 .ireturn 1 26 := ⟨by decide +kernel, rfl⟩

theorem eL_slhKeys_0 : vD cL_slhKeys 0 (.aload_n 2) 1 1 := ⟨by decide +kernel, rfl⟩
theorem eL_slhKeys_1 : vD cL_slhKeys 1 (.iconst 0) 1 2 := ⟨by decide +kernel, rfl⟩
theorem eL_slhKeys_2 : vD cL_slhKeys 2 (.aload_n 0) 1 3 := ⟨by decide +kernel, rfl⟩
theorem eL_slhKeys_3 : vD cL_slhKeys 3 (.iload_n 1) 1 4 := ⟨by decide +kernel, rfl⟩
theorem eL_slhKeys_4 : vD cL_slhKeys 4 (.invokevirtual 43) 3 7 := ⟨by decide +kernel, rfl⟩
theorem eL_slhKeys_7 : vD cL_slhKeys 7 .i2l 1 8 := ⟨by decide +kernel, rfl⟩
theorem eL_slhKeys_8 : vD cL_slhKeys 8 .lastore 1 9 := ⟨by decide +kernel, rfl⟩
theorem eL_slhKeys_9 : vD cL_slhKeys 9 (.goto 9) 3 12 := ⟨by decide +kernel, rfl⟩
theorem eL_slhKeys_12 : vD cL_slhKeys 12 (.astore_n 3) 1 13 := ⟨by decide +kernel, rfl⟩
theorem eL_slhKeys_13 : vD cL_slhKeys 13 (.iconst 1) 1 14 := ⟨by decide +kernel, rfl⟩
theorem eL_slhKeys_14 : vD cL_slhKeys 14 .ireturn 1 15 := ⟨by decide +kernel, rfl⟩
theorem eL_slhKeys_15 : vD cL_slhKeys 15 (.astore_n 3) 1 16 := ⟨by decide +kernel, rfl⟩
theorem eL_slhKeys_16 : vD cL_slhKeys 16 (.iconst 2) 1 17 := ⟨by decide +kernel, rfl⟩
theorem eL_slhKeys_17 : vD cL_slhKeys 17 .ireturn 1 18 := ⟨by decide +kernel, rfl⟩
theorem eL_slhKeys_18 : vD cL_slhKeys 18 (.iconst 0) 1 19 := ⟨by decide +kernel, rfl⟩
theorem eL_slhKeys_19 : vD cL_slhKeys 19 .ireturn 1 20 := ⟨by decide +kernel, rfl⟩

theorem eL_slhSign_0 : vD cL_slhSign 0 (.aload_n 3) 1 1 := ⟨by decide +kernel, rfl⟩
theorem eL_slhSign_1 : vD cL_slhSign 1 (.iconst 0) 1 2 := ⟨by decide +kernel, rfl⟩
theorem eL_slhSign_2 : vD cL_slhSign 2 (.aload_n 0) 1 3 := ⟨by decide +kernel, rfl⟩
theorem eL_slhSign_3 : vD cL_slhSign 3 (.iload_n 1) 1 4 := ⟨by decide +kernel, rfl⟩
theorem eL_slhSign_4 : vD cL_slhSign 4 (.iload_n 2) 1 5 := ⟨by decide +kernel, rfl⟩
theorem eL_slhSign_5 : vD cL_slhSign 5 (.invokevirtual 48) 3 8 := ⟨by decide +kernel, rfl⟩
theorem eL_slhSign_8 : vD cL_slhSign 8 .i2l 1 9 := ⟨by decide +kernel, rfl⟩
theorem eL_slhSign_9 : vD cL_slhSign 9 .lastore 1 10 := ⟨by decide +kernel, rfl⟩
theorem eL_slhSign_10 : vD cL_slhSign 10 (.goto 15) 3 13 := ⟨by decide +kernel, rfl⟩
theorem eL_slhSign_13 : vD cL_slhSign 13 (.astore 4) 2 15 := ⟨by decide +kernel, rfl⟩
theorem eL_slhSign_15 : vD cL_slhSign 15 (.iconst 1) 1 16 := ⟨by decide +kernel, rfl⟩
theorem eL_slhSign_16 : vD cL_slhSign 16 .ireturn 1 17 := ⟨by decide +kernel, rfl⟩
theorem eL_slhSign_17 : vD cL_slhSign 17 (.astore 4) 2 19 := ⟨by decide +kernel, rfl⟩
theorem eL_slhSign_19 : vD cL_slhSign 19 (.iconst 2) 1 20 := ⟨by decide +kernel, rfl⟩
theorem eL_slhSign_20 : vD cL_slhSign 20 .ireturn 1 21 := ⟨by decide +kernel, rfl⟩
theorem eL_slhSign_21 : vD cL_slhSign 21 (.astore 4) 2 23 := ⟨by decide +kernel, rfl⟩
theorem eL_slhSign_23 : vD cL_slhSign 23 (.iconst 3) 1 24 := ⟨by decide +kernel, rfl⟩
theorem eL_slhSign_24 : vD cL_slhSign 24 .ireturn 1 25 := ⟨by decide +kernel, rfl⟩
theorem eL_slhSign_25 : vD cL_slhSign 25 (.iconst 0) 1 26 := ⟨by decide +kernel, rfl⟩
theorem eL_slhSign_26 : vD cL_slhSign 26 .ireturn 1 27 := ⟨by decide +kernel, rfl⟩

theorem eL_slhVerify_0 : vD cL_slhVerify 0 (.aload_n 3) 1 1 := ⟨by decide +kernel, rfl⟩
theorem eL_slhVerify_1 : vD cL_slhVerify 1 (.iconst 0) 1 2 := ⟨by decide +kernel, rfl⟩
theorem eL_slhVerify_2 : vD cL_slhVerify 2 (.aload_n 0) 1 3 := ⟨by decide +kernel, rfl⟩
theorem eL_slhVerify_3 : vD cL_slhVerify 3 (.iload_n 1) 1 4 := ⟨by decide +kernel, rfl⟩
theorem eL_slhVerify_4 : vD cL_slhVerify 4 (.iload_n 2) 1 5 := ⟨by decide +kernel, rfl⟩
theorem eL_slhVerify_5 : vD cL_slhVerify 5 (.invokevirtual 53) 3 8 := ⟨by decide +kernel, rfl⟩
theorem eL_slhVerify_8 : vD cL_slhVerify 8 (.ifCond .eq 7) 3 11 := ⟨by decide +kernel, rfl⟩
theorem eL_slhVerify_11 : vD cL_slhVerify 11 (.lconst 1) 1 12 := ⟨by decide +kernel, rfl⟩
theorem eL_slhVerify_12 : vD cL_slhVerify 12 (.goto 4) 3 15 := ⟨by decide +kernel, rfl⟩
theorem eL_slhVerify_15 : vD cL_slhVerify 15 (.lconst 0) 1 16 := ⟨by decide +kernel, rfl⟩
theorem eL_slhVerify_16 : vD cL_slhVerify 16 .lastore 1 17 := ⟨by decide +kernel, rfl⟩
theorem eL_slhVerify_17 : vD cL_slhVerify 17 (.goto 15) 3 20 := ⟨by decide +kernel, rfl⟩
theorem eL_slhVerify_20 : vD cL_slhVerify 20 (.astore 4) 2 22 := ⟨by decide +kernel, rfl⟩
theorem eL_slhVerify_22 : vD cL_slhVerify 22 (.iconst 1) 1 23 := ⟨by decide +kernel, rfl⟩
theorem eL_slhVerify_23 : vD cL_slhVerify 23 .ireturn 1 24 := ⟨by decide +kernel, rfl⟩
theorem eL_slhVerify_24 : vD cL_slhVerify 24 (.astore 4) 2 26 := ⟨by decide +kernel, rfl⟩
theorem eL_slhVerify_26 : vD cL_slhVerify 26 (.iconst 2) 1 27 := ⟨by decide +kernel, rfl⟩
theorem eL_slhVerify_27 : vD cL_slhVerify 27 .ireturn 1 28 := ⟨by decide +kernel, rfl⟩
theorem eL_slhVerify_28 : vD cL_slhVerify 28 (.astore 4) 2 30 := ⟨by decide +kernel, rfl⟩
theorem eL_slhVerify_30 : vD cL_slhVerify 30 (.iconst 3) 1 31 := ⟨by decide +kernel, rfl⟩
theorem eL_slhVerify_31 : vD cL_slhVerify 31 .ireturn 1 32 := ⟨by decide +kernel, rfl⟩
theorem eL_slhVerify_32 : vD cL_slhVerify 32 (.iconst 0) 1 33 := ⟨by decide +kernel, rfl⟩
theorem eL_slhVerify_33 : vD cL_slhVerify 33 .ireturn 1 34 := ⟨by decide +kernel, rfl⟩

theorem eL_slhNode_0 : vD cL_slhNode 0 (.aload 6) 2 2 := ⟨by decide +kernel, rfl⟩
theorem eL_slhNode_2 : vD cL_slhNode 2 (.iconst 0) 1 3 := ⟨by decide +kernel, rfl⟩
theorem eL_slhNode_3 : vD cL_slhNode 3 (.aload_n 0) 1 4 := ⟨by decide +kernel, rfl⟩
theorem eL_slhNode_4 : vD cL_slhNode 4 (.iload_n 1) 1 5 := ⟨by decide +kernel, rfl⟩
theorem eL_slhNode_5 : vD cL_slhNode 5 (.iload_n 2) 1 6 := ⟨by decide +kernel, rfl⟩
theorem eL_slhNode_6 : vD cL_slhNode 6 (.iload_n 3) 1 7 := ⟨by decide +kernel, rfl⟩
theorem eL_slhNode_7 : vD cL_slhNode 7 (.iload 4) 2 9 := ⟨by decide +kernel, rfl⟩
theorem eL_slhNode_9 : vD cL_slhNode 9 (.iload 5) 2 11 := ⟨by decide +kernel, rfl⟩
theorem eL_slhNode_11 : vD cL_slhNode 11 (.invokevirtual 56) 3 14 := ⟨by decide +kernel, rfl⟩
theorem eL_slhNode_14 : vD cL_slhNode 14 .i2l 1 15 := ⟨by decide +kernel, rfl⟩
theorem eL_slhNode_15 : vD cL_slhNode 15 .lastore 1 16 := ⟨by decide +kernel, rfl⟩
theorem eL_slhNode_16 : vD cL_slhNode 16 (.goto 11) 3 19 := ⟨by decide +kernel, rfl⟩
theorem eL_slhNode_19 : vD cL_slhNode 19 (.astore 7) 2 21 := ⟨by decide +kernel, rfl⟩
theorem eL_slhNode_21 : vD cL_slhNode 21 (.iconst 1) 1 22 := ⟨by decide +kernel, rfl⟩
theorem eL_slhNode_22 : vD cL_slhNode 22 .ireturn 1 23 := ⟨by decide +kernel, rfl⟩
theorem eL_slhNode_23 : vD cL_slhNode 23 (.astore 7) 2 25 := ⟨by decide +kernel, rfl⟩
theorem eL_slhNode_25 : vD cL_slhNode 25 (.iconst 2) 1 26 := ⟨by decide +kernel, rfl⟩
theorem eL_slhNode_26 : vD cL_slhNode 26 .ireturn 1 27 := ⟨by decide +kernel, rfl⟩
theorem eL_slhNode_27 : vD cL_slhNode 27 (.iconst 0) 1 28 := ⟨by decide +kernel, rfl⟩
theorem eL_slhNode_28 : vD cL_slhNode 28 .ireturn 1 29 := ⟨by decide +kernel, rfl⟩

/-! the law's wrappers -/
def lOk (G : vG) (B : Nat) (l : Launch) (y : MethodName) (bytes : ByteArray) (maxL : Nat) (hh : List (Nat × Nat × Nat × Nat)) (d mc ms : Nat) (av : List Value) (w : vW) (post : Option Value → vW → Prop) : Prop :=
  Met l y (Cond.codeWith y bytes maxL (some .int) hh :: vGW) (vRm d mc ms) (va_Pc av (fun U => vEnv G B U ∧ vHolds G B w U.heap)) (vQ G B post) mc ms (fun q => B ≤ q)
theorem met_of_vx {l : Launch} {y : MethodName} {ws : List Cond} {rm : Room} {Pc : Array Value → State → Prop} {Qc : Array Value → State → Outcome → State → Prop} {mc ms : Nat} {free : Addr → Prop} (h : vx_Met l y ws rm Pc Qc (fun _ _ _ => False) mc ms free) : Met l y ws rm Pc Qc mc ms free := fun p e a1 a2 a3 s m args below hf hs hp hk => by
  obtain ⟨n, o, h1, h2, h3, h4⟩ := h p e a1 a2 a3 s m args below hf hs hp hk
  refine ⟨n, o, h1, h2, h3, ?_⟩
  rcases h4 with h4 | ⟨q, -, E, ce, L, hx, -⟩
  · exact h4
  · exact absurd hx not_false
section LW
variable {G : vG} {B : Nat} {p : Program} {l : Launch} {e : Env} {R : Room} {s : State} {m : MethodId} {args : Array Value} {below : List Frame} {meth : Method} {c : Code} {nL cells slots : Nat} {Q : State → Prop} {w : vW} {cc : ByteArray} {ret : Option FieldType} {own : String} {pc pc' : Nat} {lv : List (Nat × Value)} {st : List Value}
theorem lOk.of {y : MethodName} {bytes : ByteArray} {maxL d mc ms : Nat} {hh : List (Nat × Nat × Nat × Nat)} {av : List Value} {post : Option Value → vW → Prop} (hy : plainName y.cls = true) (hlen : (lg_sl av).length ≤ maxL)
    (h : ∀ (p : Program) (e : Env) (s : State) (m : MethodId) (args : Array Value) (below : List Frame) (meth : Method) (c : Code), vC G B p m meth c bytes maxL (some .int) s args y.cls → c.exceptionTable.toList = tableOf hh → V G B p l e (vRm d mc ms) s m args below meth c maxL 0 0 (vx_MQ below (vQ G B post) (fun _ _ _ => False) args s mc ms (fun q => B ≤ q)) w 0 (lv_args 0 av) []) : lOk G B l y bytes maxL hh d mc ms av w post := by
  refine met_of_vx (vx_ofWH (cc := bytes) (maxL := maxL) (ret := some .int) (hh := hh) hy rfl ?_)
  intro p e s m args below meth c s₁ Bd hml hv
  obtain ⟨rfl, hE, hW⟩ := hv
  have hts := atoms_spec (ws := Cond.codeWith y bytes maxL (some .int) hh :: vGW) Bd.pre
  have hown : s.vm.findClass y.cls = some m.cls := findClass_of_methodNamed Bd.named
  have C : vC G B p m meth c bytes maxL (some .int) s av.toArray y.cls := ⟨⟨Bd.exec, Bd.bytes, hml, hown, fun w h => hts w (List.mem_cons_of_mem _ h)⟩, hE, Bd.returns, Bd.notSynchronized⟩
  have hT := vx_table (x := y) Bd (hts _ List.mem_cons_self)
  rw [lg_entry_eq]
  exact h p e s m _ below meth c C hT s.heap [] _ hW va_S.rf (lv_entry av hlen)
def vLW (own : String) (index : Nat) (y : MethodName) (bytes : ByteArray) (maxL : Nat) (hh : List (Nat × Nat × Nat × Nat)) (n : Nat) : Prop := Cond.methodLink own index y ∈ vGW ∧ Cond.static y ∈ vGW ∧ Cond.initialized y.cls ∈ vGW ∧ Cond.codeWith y bytes maxL (some .int) hh ∈ vGW ∧ vNoH y.cls ∧ vPar y.desc n
theorem v_callW (C : vC G B p m meth c cc nL ret s args own) {index n maxL d mc ms : Nat} {y : MethodName} {bytes : ByteArray} {hh : List (Nat × Nat × Nat × Nat)} {av rest : List Value} {post : Option Value → vW → Prop} (hm : vLW own index y bytes maxL hh n) (hok : lOk G B l y bytes maxL hh d mc ms av w post) (hfit : (vRm d mc ms).frames + 1 ≤ R.frames ∧ 8 + (maxL + 11) + (vRm d mc ms).locals ≤ R.locals) (hrm : cells + mc ≤ R.cells ∧ slots + ms ≤ R.slots) (hn : av.length = n) (hst : st = av.reverse ++ rest) (hroom : (rest.map fun v => v.category).sum ≤ 8) (hd : vD cc pc (.invokestatic index) 3 pc') (k : ∀ (r : Option Value) (w' : vW), post r w' → V G B p l e R s m args below meth c nL (cells + mc) (slots + ms) Q w' pc' lv (r.toList ++ rest)) : V G B p l e R s m args below meth c nL cells slots Q w pc lv st := by
  subst hst
  obtain ⟨hlink, hstat, hini, hcode, hcls, hpar⟩ := hm
  rw [hd.2] at k
  refine v_cont (mc := mc) (ms := ms) (rest := rest) (post := post) (a := av.toArray) (fun H locs ls h1 h2 h3 => ?_) k
  have hG : GoodIn vGW (va_wsS own index y (Cond.codeWith y bytes maxL (some .int) hh :: vGW)) := fun w hw => by
    have hm : w ∈ vGW := by
      rcases List.mem_append.mp hw with h | h
      · simp only [List.mem_cons, List.not_mem_nil, or_false] at h
        rcases h with rfl | rfl | rfl
        · exact hlink
        · exact hstat
        · exact hini
      · rcases List.mem_cons.mp h with rfl | h
        · exact hcode
        · exact h
    exact ⟨hm, vGW_ok _ hm⟩
  exact vx_runSW C.1 hok (vx_cwSW n C.1.2.2.2.2 hG rfl rfl rfl ⟨hcls.1, hcls.2, hpar⟩ hfit) (vPre C.2.1 h1 h2) rfl hn h3.1 rfl (lv_room hroom) hd.1 hrm
/-- caught here -/
theorem l_catch (C : vC G B p m meth c cc nL ret s args RL) {hh : List (Nat × Nat × Nat × Nat)} (hT : c.exceptionTable.toList = tableOf hh) {E : String} {ce : Cell} {q h9 t9 a9 b9 : Nat} {H : Heap} {locs : List Loc} {ls : Array Slot} {rest : List Value} (pre suf : List (Nat × Nat × Nat × Nat)) (hs : hh = pre ++ (a9, b9, h9, t9) :: suf) (hpass : ∀ z ∈ pre, z.2.2.2 ≠ 0 ∧ ∃ nm : String, Cond.classLink RL z.2.2.2 nm ∈ vGW ∧ (E, nm) ∈ vNc) (hx : a9 ≤ pc ∧ pc < b9) (h0 : t9 ≠ 0) (hlink : Cond.classLink RL t9 E ∈ vGW) (hcast : Cond.castable E E ∈ vNW) (h1 : vHolds G B w H) (h2 : va_S (fun q => B ≤ q) s.heap H locs) (h3 : lv_has ls nL lv) (hce : H[q]? = some ce) (hcv : ce.vm = .none) (hcl : s.vm.findClass E = some ce.cls) (k : V G B p l e R s m args below meth c nL cells slots Q w h9 lv [.ref q]) : vx_W p l e R s m args below meth c H locs cells slots Q (F0 m pc ls rest) q := by
  refine vx_catch (own := RL) (name := E) C.1.2.2.2.1 (tableOf pre) ⟨a9, b9, h9, t9⟩ (tableOf suf) (by rw [hT, hs]; simp [tableOf]) (fun z hz => ?_) (by simp [covers, hx.1, hx.2]) h0 (C.1.2.2.2.2 _ hlink) (va_Nw.use rfl (C.2.1.2.2.1 _ hcast)) hce hcv hcl (k H locs ls h1 h2 h3)
  obtain ⟨y, hy, rfl⟩ := List.mem_map.mp hz
  obtain ⟨g1, nm, g2, g3⟩ := hpass y hy
  exact Or.inr ⟨g1, nm, C.1.2.2.2.2 _ g2, C.2.1.2.2.2.2.2.2.2 (E, nm) g3⟩
end LW
theorem clL_13 : Cond.classLink RL 13 eIOB ∈ vGW := vGW_at 324 (by decide +kernel) (by decide +kernel)
theorem clL_19 : Cond.classLink RL 19 eIAE ∈ vGW := vGW_at 406 (by decide +kernel) (by decide +kernel)
theorem clL_46 : Cond.classLink RL 46 eISE ∈ vGW := vGW_at 761 (by decide +kernel) (by decide +kernel)
theorem clL_51 : Cond.classLink RL 51 eUOE ∈ vGW := vGW_at 959 (by decide +kernel) (by decide +kernel)
theorem ca_IOB : Cond.castable eIOB eIOB ∈ vNW := by decide +kernel
theorem ca_IAE : Cond.castable eIAE eIAE ∈ vNW := by decide +kernel
theorem ca_ISE : Cond.castable eISE eISE ∈ vNW := by decide +kernel
theorem ca_UOE : Cond.castable eUOE eUOE ∈ vNW := by decide +kernel
set_option maxRecDepth 100000 in
theorem mLW_feed : vLW RL 63 yL_feed cL_feed 8 [(0, 16, 19, 13)] 7 := ⟨vGW_at 321 (by decide +kernel) (by decide +kernel), vGW_at 322 (by decide +kernel) (by decide +kernel), vGW_at 0 (by decide +kernel) (by decide +kernel), vGW_at 323 rfl (by decide +kernel), ⟨by decide +kernel, by decide +kernel⟩, by decide +kernel⟩
set_option maxRecDepth 100000 in
theorem mLW_end : vLW RL 73 yL_end cL_end 5 [(0, 10, 13, 19), (0, 10, 17, 13)] 4 := ⟨vGW_at 403 (by decide +kernel) (by decide +kernel), vGW_at 404 (by decide +kernel) (by decide +kernel), vGW_at 0 (by decide +kernel) (by decide +kernel), vGW_at 405 rfl (by decide +kernel), ⟨by decide +kernel, by decide +kernel⟩, by decide +kernel⟩
set_option maxRecDepth 100000 in
theorem mLW_copy : vLW RL 77 yL_copy cL_copy 5 [(0, 10, 13, 19)] 4 := ⟨vGW_at 442 (by decide +kernel) (by decide +kernel), vGW_at 443 (by decide +kernel) (by decide +kernel), vGW_at 0 (by decide +kernel) (by decide +kernel), vGW_at 444 rfl (by decide +kernel), ⟨by decide +kernel, by decide +kernel⟩, by decide +kernel⟩
set_option maxRecDepth 100000 in
theorem mLW_resize : vLW RL 80 yL_resize cL_resize 5 [(0, 10, 13, 19)] 4 := ⟨vGW_at 449 (by decide +kernel) (by decide +kernel), vGW_at 450 (by decide +kernel) (by decide +kernel), vGW_at 0 (by decide +kernel) (by decide +kernel), vGW_at 451 rfl (by decide +kernel), ⟨by decide +kernel, by decide +kernel⟩, by decide +kernel⟩
set_option maxRecDepth 100000 in
theorem mLW_alter : vLW RL 83 yL_alter cL_alter 6 [(0, 12, 15, 19), (0, 12, 19, 13)] 5 := ⟨vGW_at 721 (by decide +kernel) (by decide +kernel), vGW_at 722 (by decide +kernel) (by decide +kernel), vGW_at 0 (by decide +kernel) (by decide +kernel), vGW_at 723 rfl (by decide +kernel), ⟨by decide +kernel, by decide +kernel⟩, by decide +kernel⟩
set_option maxRecDepth 100000 in
theorem mLW_length : vLW RL 87 yL_length cL_length 4 [(0, 9, 12, 19)] 3 := ⟨vGW_at 734 (by decide +kernel) (by decide +kernel), vGW_at 735 (by decide +kernel) (by decide +kernel), vGW_at 0 (by decide +kernel) (by decide +kernel), vGW_at 736 rfl (by decide +kernel), ⟨by decide +kernel, by decide +kernel⟩, by decide +kernel⟩
set_option maxRecDepth 100000 in
theorem mLW_word : vLW RL 91 yL_word cL_word 5 [(0, 9, 12, 19), (0, 9, 16, 13)] 4 := ⟨vGW_at 741 (by decide +kernel) (by decide +kernel), vGW_at 742 (by decide +kernel) (by decide +kernel), vGW_at 0 (by decide +kernel) (by decide +kernel), vGW_at 743 rfl (by decide +kernel), ⟨by decide +kernel, by decide +kernel⟩, by decide +kernel⟩
set_option maxRecDepth 100000 in
theorem mLW_same : vLW RL 94 yL_same cL_same 5 [(0, 17, 20, 19)] 4 := ⟨vGW_at 748 (by decide +kernel) (by decide +kernel), vGW_at 749 (by decide +kernel) (by decide +kernel), vGW_at 0 (by decide +kernel) (by decide +kernel), vGW_at 750 rfl (by decide +kernel), ⟨by decide +kernel, by decide +kernel⟩, by decide +kernel⟩
set_option maxRecDepth 100000 in
theorem mLW_slhKeys : vLW RL 97 yL_slhKeys cL_slhKeys 4 [(0, 9, 12, 19), (0, 9, 15, 46)] 3 := ⟨vGW_at 758 (by decide +kernel) (by decide +kernel), vGW_at 759 (by decide +kernel) (by decide +kernel), vGW_at 0 (by decide +kernel) (by decide +kernel), vGW_at 760 rfl (by decide +kernel), ⟨by decide +kernel, by decide +kernel⟩, by decide +kernel⟩
set_option maxRecDepth 100000 in
theorem mLW_slhSign : vLW RL 100 yL_slhSign cL_slhSign 5 [(0, 10, 13, 19), (0, 10, 17, 46), (0, 10, 21, 51)] 4 := ⟨vGW_at 956 (by decide +kernel) (by decide +kernel), vGW_at 957 (by decide +kernel) (by decide +kernel), vGW_at 0 (by decide +kernel) (by decide +kernel), vGW_at 958 rfl (by decide +kernel), ⟨by decide +kernel, by decide +kernel⟩, by decide +kernel⟩
set_option maxRecDepth 100000 in
theorem mLW_slhVerify : vLW RL 103 yL_slhVerify cL_slhVerify 5 [(0, 17, 20, 19), (0, 17, 24, 46), (0, 17, 28, 51)] 4 := ⟨vGW_at 1072 (by decide +kernel) (by decide +kernel), vGW_at 1073 (by decide +kernel) (by decide +kernel), vGW_at 0 (by decide +kernel) (by decide +kernel), vGW_at 1074 rfl (by decide +kernel), ⟨by decide +kernel, by decide +kernel⟩, by decide +kernel⟩
set_option maxRecDepth 100000 in
theorem mLW_slhNode : vLW RL 106 yL_slhNode cL_slhNode 8 [(0, 16, 19, 19), (0, 16, 23, 51)] 7 := ⟨vGW_at 1082 (by decide +kernel) (by decide +kernel), vGW_at 1083 (by decide +kernel) (by decide +kernel), vGW_at 0 (by decide +kernel) (by decide +kernel), vGW_at 1084 rfl (by decide +kernel), ⟨by decide +kernel, by decide +kernel⟩, by decide +kernel⟩
theorem z_sameV {q n : Int32} (h : (sp_same S0 [] q n).1 = 0) : (sp_same S0 [] q n).2.1 = 1 := by
  by_cases g : (0 ≤ q ∧ q ≤ 7) ∧ 0 ≤ n ∧ n ≤ 7
  · exact (z_same0 g).2
  · rw [z_same1 g] at h; exact absurd h (by decide)
theorem z_alterN {q i v : Int32} : (sp_alter S0 [] q i v).1 ≠ 0 := by
  by_cases g : (0 ≤ q ∧ q ≤ 7) ∧ 0 ≤ v ∧ v ≤ 255
  · rw [z_alter2 g]; decide
  · rw [z_alter1 g]; decide
theorem z_wordN {q i : Int32} : (sp_word S0 q i).1 ≠ 0 := by
  by_cases g : 0 ≤ q ∧ q ≤ 7
  · rw [z_word2 g]; decide
  · rw [z_word1 g]; decide
theorem z_keysN {θ : tT} {p : Int32} : (sp_keys θ S0 [] p).1 ≠ 0 := by
  by_cases g : 0 ≤ p ∧ p ≤ 11
  · rw [z_keys2 g]; decide
  · rw [z_keys1 g]; decide
theorem z_signN {θ : tT} {p h : Int32} : (sp_sign θ S0 [] p h).1 ≠ 0 := by
  by_cases g : (0 ≤ p ∧ p ≤ 11) ∧ (h = 0 ∨ h = -1)
  · rw [z_sign3 g]; decide
  · rw [z_sign1 g]; decide
theorem z_verifyN {θ : tT} {p h : Int32} : (sp_verify θ S0 [] p h).1 ≠ 0 := by
  by_cases g : (0 ≤ p ∧ p ≤ 11) ∧ (h = 0 ∨ h = -1)
  · rw [z_verify3 g]; decide
  · rw [z_verify1 g]; decide
theorem z_nodeN {θ : tT} {p ly tr z i : Int32} : (sp_node θ S0 [] p ly tr z i).1 ≠ 0 := by
  by_cases g : (0 ≤ p ∧ p ≤ 11) ∧ nodeOk (ixN p % 6) ly tr z i
  · rw [z_node2 g.1 g.2]; decide
  · rw [z_node1 g]; decide
section LWM
variable {G : vG} {B : Nat} {l : Launch} {ad : Nat → Nat} {N : Nat} {x4 x6 x7 : Nat} {σ : nS} {θ : tT} {f0 : Nat → Int64}
set_option maxRecDepth 100000 in
set_option maxHeartbeats 4000000 in
theorem w_feed (hl : l.stackTraces = false) (I : nI1 ad N) (hN : ∀ k, k < 87 → k < N) (F : CF G ad x4 x6 x7 σ) (h86 : σ 86 = eJ G 1 f0) (a1 a2 a3 a4 a5 : Int32) : lOk G B l yL_feed cL_feed 8 [(0, 16, 19, 13)] 8 1 6 [.ref (ad 74), .int a1, .int a2, .int a3, .int a4, .int a5, .ref (ad 86)] (nW ad N σ) (fun r w' => ∃ σ', w' = nW ad N σ' ∧ (∀ j, j < 74 → σ' j = σ j) ∧ r = some (.int (sp_feed S0 [] a1 a2 a3 a4 a5).1) ∧ ((sp_feed S0 [] a1 a2 a3 a4 a5).1 = 0 → ∃ f : Nat → Int64, σ' 86 = eJ G 1 f ∧ f 0 = ((sp_feed S0 [] a1 a2 a3 a4 a5).2.1).toInt64)) := by
  refine lOk.of (by decide +kernel) (Nat.le_of_ble_eq_true rfl) ?_
  intro p e s m args below meth c C hT
  refine v_eq (lv' := [(0, .ref (ad 74)), (1, .int a1), (2, .int a2), (3, .int a3), (4, .int a4), (5, .int a5), (6, .ref (ad 86))]) rfl rfl rfl ?_
  refine v_aload C eL_feed_0 6 rfl ?_
  refine v_iconst (v := (0 : Int32)) C eL_feed_2 (by decide) ?_
  refine v_aload_n C eL_feed_3 rfl 0 rfl ?_
  refine v_iload_n C eL_feed_4 rfl 1 rfl ?_
  refine v_iload_n C eL_feed_5 rfl 2 rfl ?_
  refine v_iload_n C eL_feed_6 rfl 3 rfl ?_
  refine v_iload C eL_feed_7 4 rfl ?_
  refine v_iload C eL_feed_9 5 rfl ?_
  refine x_runV (As := [.int a1, .int a2, .int a3, .int a4, .int a5]) (rest := [.int ((0 : Int32)), .ref (ad 86)]) C hnoL mL_7 (p_feed hl I (fun k hk => hN k (by omega)) F a1 a2 a3 a4 a5) ((nW_at I (hN 74 (by decide))).trans (congrArg some F.1)) (vRm_fit (by decide) (by decide)) ⟨Nat.le_of_ble_eq_true rfl, Nat.le_of_ble_eq_true rfl⟩ rfl rfl (Nat.le_of_ble_eq_true rfl) eL_feed_11 ?_ (fun r w' hp => ?_)
  · intro E ce q H locs ls hx h1 h2 h3 hce hcv hcl
    exact absurd hx not_false
  · obtain ⟨σ1, rfl, g1, g2, rfl⟩ := hp
    have g86 : σ1 86 = eJ G 1 f0 := (g1 86 (by decide)).trans h86
    refine v_i2l C eL_feed_14 ?_
    refine n_last C I eL_feed_15 (hN 86 (by decide)) g86 0 (rfl : (0 : Int32) = nI 0) (by omega) (by decide) ?_
    refine v_goto (tgt := 23) C eL_feed_16 (by decide) ?_
    refine v_iconst (v := (0 : Int32)) C eL_feed_23 (by decide) ?_
    refine x_ret ?_
    refine v_wide (k := 1) (n := 6) (Nat.le_of_ble_eq_true rfl) (Nat.le_of_ble_eq_true rfl) ?_
    exact v_iret C rfl eL_feed_24 ⟨_, rfl, fun j hj => (n_ne (by omega)).trans (g1 j (by omega)), by rw [g2], fun _ => ⟨_, n_self, rfl⟩⟩
set_option maxRecDepth 100000 in
set_option maxHeartbeats 4000000 in
theorem w_end (hl : l.stackTraces = false) (I : nI1 ad N) (hN : ∀ k, k < 87 → k < N) (F : CF G ad x4 x6 x7 σ) (h86 : σ 86 = eJ G 1 f0) (a1 a2 : Int32) : lOk G B l yL_end cL_end 5 [(0, 10, 13, 19), (0, 10, 17, 13)] 8 3 18 [.ref (ad 74), .int a1, .int a2, .ref (ad 86)] (nW ad N σ) (fun r w' => ∃ σ', w' = nW ad N σ' ∧ (∀ j, j < 74 → σ' j = σ j) ∧ r = some (.int (sp_end S0 [] a1 a2).1) ∧ ((sp_end S0 [] a1 a2).1 = 0 → ∃ f : Nat → Int64, σ' 86 = eJ G 1 f ∧ f 0 = ((sp_end S0 [] a1 a2).2.1).toInt64)) := by
  refine lOk.of (by decide +kernel) (Nat.le_of_ble_eq_true rfl) ?_
  intro p e s m args below meth c C hT
  refine v_eq (lv' := [(0, .ref (ad 74)), (1, .int a1), (2, .int a2), (3, .ref (ad 86))]) rfl rfl rfl ?_
  refine v_aload_n C eL_end_0 rfl 3 rfl ?_
  refine v_iconst (v := (0 : Int32)) C eL_end_1 (by decide) ?_
  refine v_aload_n C eL_end_2 rfl 0 rfl ?_
  refine v_iload_n C eL_end_3 rfl 1 rfl ?_
  refine v_iload_n C eL_end_4 rfl 2 rfl ?_
  refine x_runV (As := [.int a1, .int a2]) (rest := [.int ((0 : Int32)), .ref (ad 86)]) C hnoL mL_15 (p_end hl I (fun k hk => hN k (by omega)) F a1 a2) ((nW_at I (hN 74 (by decide))).trans (congrArg some F.1)) (vRm_fit (by decide) (by decide)) ⟨Nat.le_of_ble_eq_true rfl, Nat.le_of_ble_eq_true rfl⟩ rfl rfl (Nat.le_of_ble_eq_true rfl) eL_end_5 ?_ (fun r w' hp => ?_)
  · intro E ce q H locs ls hx h1 h2 h3 hce hcv hcl
    rcases hx with ⟨rfl, hk⟩ | ⟨rfl, hk⟩
    · refine l_catch (E := eIAE) (w := nW ad N σ) C hT [] [(0, 10, 17, 13)] rfl (fun z hz => absurd hz List.not_mem_nil) ⟨by decide, by decide⟩ (by decide) clL_19 ca_IAE h1 h2 h3 hce hcv hcl ?_
      refine v_astore (lv' := [(0, .ref (ad 74)), (1, .int a1), (2, .int a2), (3, .ref (ad 86)), (4, .ref q)]) C eL_end_13 (by decide) [1, 2, 3, 4, 0] rfl ?_
      refine v_iconst (v := (1 : Int32)) C eL_end_15 (by decide) ?_
      refine x_ret ?_
      refine v_wide (k := 3) (n := 18) (Nat.le_of_ble_eq_true rfl) (Nat.le_of_ble_eq_true rfl) ?_
      exact v_iret C rfl eL_end_16 ⟨σ, rfl, fun _ _ => rfl, by rw [hk], fun h => absurd (hk.symm.trans h) (by decide)⟩
    · refine l_catch (E := eIOB) (w := nW ad N σ) C hT [(0, 10, 13, 19)] [] rfl (by simp only [List.forall_mem_cons]; exact ⟨⟨by decide, _, clL_19, by decide⟩, fun _ h => absurd h List.not_mem_nil⟩) ⟨by decide, by decide⟩ (by decide) clL_13 ca_IOB h1 h2 h3 hce hcv hcl ?_
      refine v_astore (lv' := [(0, .ref (ad 74)), (1, .int a1), (2, .int a2), (3, .ref (ad 86)), (4, .ref q)]) C eL_end_17 (by decide) [1, 2, 3, 4, 0] rfl ?_
      refine v_iconst (v := (2 : Int32)) C eL_end_19 (by decide) ?_
      refine x_ret ?_
      refine v_wide (k := 3) (n := 18) (Nat.le_of_ble_eq_true rfl) (Nat.le_of_ble_eq_true rfl) ?_
      exact v_iret C rfl eL_end_20 ⟨σ, rfl, fun _ _ => rfl, by rw [hk], fun h => absurd (hk.symm.trans h) (by decide)⟩
  · obtain ⟨σ1, rfl, g1, g2, rfl⟩ := hp
    have g86 : σ1 86 = eJ G 1 f0 := (g1 86 (by decide)).trans h86
    refine v_i2l C eL_end_8 ?_
    refine n_last C I eL_end_9 (hN 86 (by decide)) g86 0 (rfl : (0 : Int32) = nI 0) (by omega) (by decide) ?_
    refine v_goto (tgt := 21) C eL_end_10 (by decide) ?_
    refine v_iconst (v := (0 : Int32)) C eL_end_21 (by decide) ?_
    refine x_ret ?_
    refine v_wide (k := 3) (n := 18) (Nat.le_of_ble_eq_true rfl) (Nat.le_of_ble_eq_true rfl) ?_
    exact v_iret C rfl eL_end_22 ⟨_, rfl, fun j hj => (n_ne (by omega)).trans (g1 j (by omega)), by rw [g2], fun _ => ⟨_, n_self, rfl⟩⟩
set_option maxRecDepth 100000 in
set_option maxHeartbeats 4000000 in
theorem w_copy (hl : l.stackTraces = false) (I : nI1 ad N) (hN : ∀ k, k < 87 → k < N) (F : CF G ad x4 x6 x7 σ) (h86 : σ 86 = eJ G 1 f0) (a1 a2 : Int32) : lOk G B l yL_copy cL_copy 5 [(0, 10, 13, 19)] 8 2 12 [.ref (ad 74), .int a1, .int a2, .ref (ad 86)] (nW ad N σ) (fun r w' => ∃ σ', w' = nW ad N σ' ∧ (∀ j, j < 74 → σ' j = σ j) ∧ r = some (.int (sp_copy S0 [] a1 a2).1) ∧ ((sp_copy S0 [] a1 a2).1 = 0 → ∃ f : Nat → Int64, σ' 86 = eJ G 1 f ∧ f 0 = ((sp_copy S0 [] a1 a2).2.1).toInt64)) := by
  refine lOk.of (by decide +kernel) (Nat.le_of_ble_eq_true rfl) ?_
  intro p e s m args below meth c C hT
  refine v_eq (lv' := [(0, .ref (ad 74)), (1, .int a1), (2, .int a2), (3, .ref (ad 86))]) rfl rfl rfl ?_
  refine v_aload_n C eL_copy_0 rfl 3 rfl ?_
  refine v_iconst (v := (0 : Int32)) C eL_copy_1 (by decide) ?_
  refine v_aload_n C eL_copy_2 rfl 0 rfl ?_
  refine v_iload_n C eL_copy_3 rfl 1 rfl ?_
  refine v_iload_n C eL_copy_4 rfl 2 rfl ?_
  refine x_runV (As := [.int a1, .int a2]) (rest := [.int ((0 : Int32)), .ref (ad 86)]) C hnoL mL_21 (p_copy hl I (fun k hk => hN k (by omega)) F a1 a2) ((nW_at I (hN 74 (by decide))).trans (congrArg some F.1)) (vRm_fit (by decide) (by decide)) ⟨Nat.le_of_ble_eq_true rfl, Nat.le_of_ble_eq_true rfl⟩ rfl rfl (Nat.le_of_ble_eq_true rfl) eL_copy_5 ?_ (fun r w' hp => ?_)
  · intro E ce q H locs ls hx h1 h2 h3 hce hcv hcl
    obtain ⟨rfl, hk⟩ := hx
    refine l_catch (E := eIAE) (w := nW ad N σ) C hT [] [] rfl (fun z hz => absurd hz List.not_mem_nil) ⟨by decide, by decide⟩ (by decide) clL_19 ca_IAE h1 h2 h3 hce hcv hcl ?_
    refine v_astore (lv' := [(0, .ref (ad 74)), (1, .int a1), (2, .int a2), (3, .ref (ad 86)), (4, .ref q)]) C eL_copy_13 (by decide) [1, 2, 3, 4, 0] rfl ?_
    refine v_iconst (v := (1 : Int32)) C eL_copy_15 (by decide) ?_
    refine x_ret ?_
    refine v_wide (k := 2) (n := 12) (Nat.le_of_ble_eq_true rfl) (Nat.le_of_ble_eq_true rfl) ?_
    exact v_iret C rfl eL_copy_16 ⟨σ, rfl, fun _ _ => rfl, by rw [hk], fun h => absurd (hk.symm.trans h) (by decide)⟩
  · obtain ⟨σ1, rfl, g1, g2, rfl⟩ := hp
    have g86 : σ1 86 = eJ G 1 f0 := (g1 86 (by decide)).trans h86
    refine v_i2l C eL_copy_8 ?_
    refine n_last C I eL_copy_9 (hN 86 (by decide)) g86 0 (rfl : (0 : Int32) = nI 0) (by omega) (by decide) ?_
    refine v_goto (tgt := 17) C eL_copy_10 (by decide) ?_
    refine v_iconst (v := (0 : Int32)) C eL_copy_17 (by decide) ?_
    refine x_ret ?_
    refine v_wide (k := 2) (n := 12) (Nat.le_of_ble_eq_true rfl) (Nat.le_of_ble_eq_true rfl) ?_
    exact v_iret C rfl eL_copy_18 ⟨_, rfl, fun j hj => (n_ne (by omega)).trans (g1 j (by omega)), by rw [g2], fun _ => ⟨_, n_self, rfl⟩⟩
set_option maxRecDepth 100000 in
set_option maxHeartbeats 4000000 in
theorem w_resize (hl : l.stackTraces = false) (I : nI1 ad N) (hN : ∀ k, k < 87 → k < N) (F : CF G ad x4 x6 x7 σ) (h86 : σ 86 = eJ G 1 f0) (a1 a2 : Int32) : lOk G B l yL_resize cL_resize 5 [(0, 10, 13, 19)] 8 2 12 [.ref (ad 74), .int a1, .int a2, .ref (ad 86)] (nW ad N σ) (fun r w' => ∃ σ', w' = nW ad N σ' ∧ (∀ j, j < 74 → σ' j = σ j) ∧ r = some (.int (sp_resize S0 [] a1 a2).1) ∧ ((sp_resize S0 [] a1 a2).1 = 0 → ∃ f : Nat → Int64, σ' 86 = eJ G 1 f ∧ f 0 = ((sp_resize S0 [] a1 a2).2.1).toInt64)) := by
  refine lOk.of (by decide +kernel) (Nat.le_of_ble_eq_true rfl) ?_
  intro p e s m args below meth c C hT
  refine v_eq (lv' := [(0, .ref (ad 74)), (1, .int a1), (2, .int a2), (3, .ref (ad 86))]) rfl rfl rfl ?_
  refine v_aload_n C eL_resize_0 rfl 3 rfl ?_
  refine v_iconst (v := (0 : Int32)) C eL_resize_1 (by decide) ?_
  refine v_aload_n C eL_resize_2 rfl 0 rfl ?_
  refine v_iload_n C eL_resize_3 rfl 1 rfl ?_
  refine v_iload_n C eL_resize_4 rfl 2 rfl ?_
  refine x_runV (As := [.int a1, .int a2]) (rest := [.int ((0 : Int32)), .ref (ad 86)]) C hnoL mL_24 (p_resize hl I (fun k hk => hN k (by omega)) F a1 a2) ((nW_at I (hN 74 (by decide))).trans (congrArg some F.1)) (vRm_fit (by decide) (by decide)) ⟨Nat.le_of_ble_eq_true rfl, Nat.le_of_ble_eq_true rfl⟩ rfl rfl (Nat.le_of_ble_eq_true rfl) eL_resize_5 ?_ (fun r w' hp => ?_)
  · intro E ce q H locs ls hx h1 h2 h3 hce hcv hcl
    obtain ⟨rfl, hk⟩ := hx
    refine l_catch (E := eIAE) (w := nW ad N σ) C hT [] [] rfl (fun z hz => absurd hz List.not_mem_nil) ⟨by decide, by decide⟩ (by decide) clL_19 ca_IAE h1 h2 h3 hce hcv hcl ?_
    refine v_astore (lv' := [(0, .ref (ad 74)), (1, .int a1), (2, .int a2), (3, .ref (ad 86)), (4, .ref q)]) C eL_resize_13 (by decide) [1, 2, 3, 4, 0] rfl ?_
    refine v_iconst (v := (1 : Int32)) C eL_resize_15 (by decide) ?_
    refine x_ret ?_
    refine v_wide (k := 2) (n := 12) (Nat.le_of_ble_eq_true rfl) (Nat.le_of_ble_eq_true rfl) ?_
    exact v_iret C rfl eL_resize_16 ⟨σ, rfl, fun _ _ => rfl, by rw [hk], fun h => absurd (hk.symm.trans h) (by decide)⟩
  · obtain ⟨σ1, rfl, g1, g2, rfl⟩ := hp
    have g86 : σ1 86 = eJ G 1 f0 := (g1 86 (by decide)).trans h86
    refine v_i2l C eL_resize_8 ?_
    refine n_last C I eL_resize_9 (hN 86 (by decide)) g86 0 (rfl : (0 : Int32) = nI 0) (by omega) (by decide) ?_
    refine v_goto (tgt := 17) C eL_resize_10 (by decide) ?_
    refine v_iconst (v := (0 : Int32)) C eL_resize_17 (by decide) ?_
    refine x_ret ?_
    refine v_wide (k := 2) (n := 12) (Nat.le_of_ble_eq_true rfl) (Nat.le_of_ble_eq_true rfl) ?_
    exact v_iret C rfl eL_resize_18 ⟨_, rfl, fun j hj => (n_ne (by omega)).trans (g1 j (by omega)), by rw [g2], fun _ => ⟨_, n_self, rfl⟩⟩
set_option maxRecDepth 100000 in
set_option maxHeartbeats 4000000 in
theorem w_alter (hl : l.stackTraces = false) (I : nI1 ad N) (hN : ∀ k, k < 87 → k < N) (F : CF G ad x4 x6 x7 σ) (h86 : σ 86 = eJ G 1 f0) (a1 a2 a3 : Int32) : lOk G B l yL_alter cL_alter 6 [(0, 12, 15, 19), (0, 12, 19, 13)] 8 2 12 [.ref (ad 74), .int a1, .int a2, .int a3, .ref (ad 86)] (nW ad N σ) (fun r w' => ∃ σ', w' = nW ad N σ' ∧ (∀ j, j < 74 → σ' j = σ j) ∧ r = some (.int (sp_alter S0 [] a1 a2 a3).1) ∧ ((sp_alter S0 [] a1 a2 a3).1 = 0 → ∃ f : Nat → Int64, σ' 86 = eJ G 1 f ∧ f 0 = ((sp_alter S0 [] a1 a2 a3).2.1).toInt64)) := by
  refine lOk.of (by decide +kernel) (Nat.le_of_ble_eq_true rfl) ?_
  intro p e s m args below meth c C hT
  refine v_eq (lv' := [(0, .ref (ad 74)), (1, .int a1), (2, .int a2), (3, .int a3), (4, .ref (ad 86))]) rfl rfl rfl ?_
  refine v_aload C eL_alter_0 4 rfl ?_
  refine v_iconst (v := (0 : Int32)) C eL_alter_2 (by decide) ?_
  refine v_aload_n C eL_alter_3 rfl 0 rfl ?_
  refine v_iload_n C eL_alter_4 rfl 1 rfl ?_
  refine v_iload_n C eL_alter_5 rfl 2 rfl ?_
  refine v_iload_n C eL_alter_6 rfl 3 rfl ?_
  refine x_runV (As := [.int a1, .int a2, .int a3]) (rest := [.int ((0 : Int32)), .ref (ad 86)]) C hnoL mL_27 (p_alter hl I (fun k hk => hN k (by omega)) F a1 a2 a3) ((nW_at I (hN 74 (by decide))).trans (congrArg some F.1)) (vRm_fit (by decide) (by decide)) ⟨Nat.le_of_ble_eq_true rfl, Nat.le_of_ble_eq_true rfl⟩ rfl rfl (Nat.le_of_ble_eq_true rfl) eL_alter_7 ?_ (fun r w' hp => ?_)
  · intro E ce q H locs ls hx h1 h2 h3 hce hcv hcl
    rcases hx with ⟨rfl, hk⟩ | ⟨rfl, hk⟩
    · refine l_catch (E := eIAE) (w := nW ad N σ) C hT [] [(0, 12, 19, 13)] rfl (fun z hz => absurd hz List.not_mem_nil) ⟨by decide, by decide⟩ (by decide) clL_19 ca_IAE h1 h2 h3 hce hcv hcl ?_
      refine v_astore (lv' := [(0, .ref (ad 74)), (1, .int a1), (2, .int a2), (3, .int a3), (4, .ref (ad 86)), (5, .ref q)]) C eL_alter_15 (by decide) [1, 2, 3, 4, 5, 0] rfl ?_
      refine v_iconst (v := (1 : Int32)) C eL_alter_17 (by decide) ?_
      refine x_ret ?_
      refine v_wide (k := 2) (n := 12) (Nat.le_of_ble_eq_true rfl) (Nat.le_of_ble_eq_true rfl) ?_
      exact v_iret C rfl eL_alter_18 ⟨σ, rfl, fun _ _ => rfl, by rw [hk], fun h => absurd (hk.symm.trans h) (by decide)⟩
    · refine l_catch (E := eIOB) (w := nW ad N σ) C hT [(0, 12, 15, 19)] [] rfl (by simp only [List.forall_mem_cons]; exact ⟨⟨by decide, _, clL_19, by decide⟩, fun _ h => absurd h List.not_mem_nil⟩) ⟨by decide, by decide⟩ (by decide) clL_13 ca_IOB h1 h2 h3 hce hcv hcl ?_
      refine v_astore (lv' := [(0, .ref (ad 74)), (1, .int a1), (2, .int a2), (3, .int a3), (4, .ref (ad 86)), (5, .ref q)]) C eL_alter_19 (by decide) [1, 2, 3, 4, 5, 0] rfl ?_
      refine v_iconst (v := (2 : Int32)) C eL_alter_21 (by decide) ?_
      refine x_ret ?_
      refine v_wide (k := 2) (n := 12) (Nat.le_of_ble_eq_true rfl) (Nat.le_of_ble_eq_true rfl) ?_
      exact v_iret C rfl eL_alter_22 ⟨σ, rfl, fun _ _ => rfl, by rw [hk], fun h => absurd (hk.symm.trans h) (by decide)⟩
  · obtain ⟨σ1, rfl, g1, g2, rfl⟩ := hp
    exact absurd g2 z_alterN
set_option maxRecDepth 100000 in
set_option maxHeartbeats 4000000 in
theorem w_length (hl : l.stackTraces = false) (I : nI1 ad N) (hN : ∀ k, k < 87 → k < N) (F : CF G ad x4 x6 x7 σ) (h86 : σ 86 = eJ G 1 f0) (a1 : Int32) : lOk G B l yL_length cL_length 4 [(0, 9, 12, 19)] 8 1 6 [.ref (ad 74), .int a1, .ref (ad 86)] (nW ad N σ) (fun r w' => ∃ σ', w' = nW ad N σ' ∧ (∀ j, j < 74 → σ' j = σ j) ∧ r = some (.int (sp_length S0 [] a1).1) ∧ ((sp_length S0 [] a1).1 = 0 → ∃ f : Nat → Int64, σ' 86 = eJ G 1 f ∧ f 0 = ((sp_length S0 [] a1).2.1).toInt64)) := by
  refine lOk.of (by decide +kernel) (Nat.le_of_ble_eq_true rfl) ?_
  intro p e s m args below meth c C hT
  refine v_eq (lv' := [(0, .ref (ad 74)), (1, .int a1), (2, .ref (ad 86))]) rfl rfl rfl ?_
  refine v_aload_n C eL_length_0 rfl 2 rfl ?_
  refine v_iconst (v := (0 : Int32)) C eL_length_1 (by decide) ?_
  refine v_aload_n C eL_length_2 rfl 0 rfl ?_
  refine v_iload_n C eL_length_3 rfl 1 rfl ?_
  refine x_runV (As := [.int a1]) (rest := [.int ((0 : Int32)), .ref (ad 86)]) C hnoL mL_31 (p_length hl I (fun k hk => hN k (by omega)) F a1) ((nW_at I (hN 74 (by decide))).trans (congrArg some F.1)) (vRm_fit (by decide) (by decide)) ⟨Nat.le_of_ble_eq_true rfl, Nat.le_of_ble_eq_true rfl⟩ rfl rfl (Nat.le_of_ble_eq_true rfl) eL_length_4 ?_ (fun r w' hp => ?_)
  · intro E ce q H locs ls hx h1 h2 h3 hce hcv hcl
    obtain ⟨rfl, hk⟩ := hx
    refine l_catch (E := eIAE) (w := nW ad N σ) C hT [] [] rfl (fun z hz => absurd hz List.not_mem_nil) ⟨by decide, by decide⟩ (by decide) clL_19 ca_IAE h1 h2 h3 hce hcv hcl ?_
    refine v_astore_n (lv' := [(0, .ref (ad 74)), (1, .int a1), (2, .ref (ad 86)), (3, .ref q)]) C eL_length_12 rfl (by decide) [1, 2, 3, 0] rfl ?_
    refine v_iconst (v := (1 : Int32)) C eL_length_13 (by decide) ?_
    refine x_ret ?_
    refine v_wide (k := 1) (n := 6) (Nat.le_of_ble_eq_true rfl) (Nat.le_of_ble_eq_true rfl) ?_
    exact v_iret C rfl eL_length_14 ⟨σ, rfl, fun _ _ => rfl, by rw [hk], fun h => absurd (hk.symm.trans h) (by decide)⟩
  · obtain ⟨σ1, rfl, g1, g2, rfl⟩ := hp
    have g86 : σ1 86 = eJ G 1 f0 := (g1 86 (by decide)).trans h86
    refine v_i2l C eL_length_7 ?_
    refine n_last C I eL_length_8 (hN 86 (by decide)) g86 0 (rfl : (0 : Int32) = nI 0) (by omega) (by decide) ?_
    refine v_goto (tgt := 15) C eL_length_9 (by decide) ?_
    refine v_iconst (v := (0 : Int32)) C eL_length_15 (by decide) ?_
    refine x_ret ?_
    refine v_wide (k := 1) (n := 6) (Nat.le_of_ble_eq_true rfl) (Nat.le_of_ble_eq_true rfl) ?_
    exact v_iret C rfl eL_length_16 ⟨_, rfl, fun j hj => (n_ne (by omega)).trans (g1 j (by omega)), by rw [g2], fun _ => ⟨_, n_self, rfl⟩⟩
set_option maxRecDepth 100000 in
set_option maxHeartbeats 4000000 in
theorem w_word (hl : l.stackTraces = false) (I : nI1 ad N) (hN : ∀ k, k < 87 → k < N) (F : CF G ad x4 x6 x7 σ) (h86 : σ 86 = eJ G 1 f0) (a1 a2 : Int32) : lOk G B l yL_word cL_word 5 [(0, 9, 12, 19), (0, 9, 16, 13)] 8 2 12 [.ref (ad 74), .int a1, .int a2, .ref (ad 86)] (nW ad N σ) (fun r w' => ∃ σ', w' = nW ad N σ' ∧ (∀ j, j < 74 → σ' j = σ j) ∧ r = some (.int (sp_word S0 a1 a2).1) ∧ ((sp_word S0 a1 a2).1 = 0 → ∃ f : Nat → Int64, σ' 86 = eJ G 1 f ∧ f 0 = (sp_word S0 a1 a2).2)) := by
  refine lOk.of (by decide +kernel) (Nat.le_of_ble_eq_true rfl) ?_
  intro p e s m args below meth c C hT
  refine v_eq (lv' := [(0, .ref (ad 74)), (1, .int a1), (2, .int a2), (3, .ref (ad 86))]) rfl rfl rfl ?_
  refine v_aload_n C eL_word_0 rfl 3 rfl ?_
  refine v_iconst (v := (0 : Int32)) C eL_word_1 (by decide) ?_
  refine v_aload_n C eL_word_2 rfl 0 rfl ?_
  refine v_iload_n C eL_word_3 rfl 1 rfl ?_
  refine v_iload_n C eL_word_4 rfl 2 rfl ?_
  refine x_runV (As := [.int a1, .int a2]) (rest := [.int ((0 : Int32)), .ref (ad 86)]) C hnoL mL_35 (p_word hl I (fun k hk => hN k (by omega)) F a1 a2) ((nW_at I (hN 74 (by decide))).trans (congrArg some F.1)) (vRm_fit (by decide) (by decide)) ⟨Nat.le_of_ble_eq_true rfl, Nat.le_of_ble_eq_true rfl⟩ rfl rfl (Nat.le_of_ble_eq_true rfl) eL_word_5 ?_ (fun r w' hp => ?_)
  · intro E ce q H locs ls hx h1 h2 h3 hce hcv hcl
    rcases hx with ⟨rfl, hk⟩ | ⟨rfl, hk⟩
    · refine l_catch (E := eIAE) (w := nW ad N σ) C hT [] [(0, 9, 16, 13)] rfl (fun z hz => absurd hz List.not_mem_nil) ⟨by decide, by decide⟩ (by decide) clL_19 ca_IAE h1 h2 h3 hce hcv hcl ?_
      refine v_astore (lv' := [(0, .ref (ad 74)), (1, .int a1), (2, .int a2), (3, .ref (ad 86)), (4, .ref q)]) C eL_word_12 (by decide) [1, 2, 3, 4, 0] rfl ?_
      refine v_iconst (v := (1 : Int32)) C eL_word_14 (by decide) ?_
      refine x_ret ?_
      refine v_wide (k := 2) (n := 12) (Nat.le_of_ble_eq_true rfl) (Nat.le_of_ble_eq_true rfl) ?_
      exact v_iret C rfl eL_word_15 ⟨σ, rfl, fun _ _ => rfl, by rw [hk], fun h => absurd (hk.symm.trans h) (by decide)⟩
    · refine l_catch (E := eIOB) (w := nW ad N σ) C hT [(0, 9, 12, 19)] [] rfl (by simp only [List.forall_mem_cons]; exact ⟨⟨by decide, _, clL_19, by decide⟩, fun _ h => absurd h List.not_mem_nil⟩) ⟨by decide, by decide⟩ (by decide) clL_13 ca_IOB h1 h2 h3 hce hcv hcl ?_
      refine v_astore (lv' := [(0, .ref (ad 74)), (1, .int a1), (2, .int a2), (3, .ref (ad 86)), (4, .ref q)]) C eL_word_16 (by decide) [1, 2, 3, 4, 0] rfl ?_
      refine v_iconst (v := (2 : Int32)) C eL_word_18 (by decide) ?_
      refine x_ret ?_
      refine v_wide (k := 2) (n := 12) (Nat.le_of_ble_eq_true rfl) (Nat.le_of_ble_eq_true rfl) ?_
      exact v_iret C rfl eL_word_19 ⟨σ, rfl, fun _ _ => rfl, by rw [hk], fun h => absurd (hk.symm.trans h) (by decide)⟩
  · obtain ⟨σ1, rfl, g1, g2, rfl⟩ := hp
    exact absurd g2 z_wordN
set_option maxRecDepth 100000 in
set_option maxHeartbeats 4000000 in
theorem w_same (hl : l.stackTraces = false) (I : nI1 ad N) (hN : ∀ k, k < 87 → k < N) (F : CF G ad x4 x6 x7 σ) (h86 : σ 86 = eJ G 1 f0) (a1 a2 : Int32) : lOk G B l yL_same cL_same 5 [(0, 17, 20, 19)] 8 2 12 [.ref (ad 74), .int a1, .int a2, .ref (ad 86)] (nW ad N σ) (fun r w' => ∃ σ', w' = nW ad N σ' ∧ (∀ j, j < 74 → σ' j = σ j) ∧ r = some (.int (sp_same S0 [] a1 a2).1) ∧ ((sp_same S0 [] a1 a2).1 = 0 → ∃ f : Nat → Int64, σ' 86 = eJ G 1 f ∧ f 0 = ((sp_same S0 [] a1 a2).2.1).toInt64)) := by
  refine lOk.of (by decide +kernel) (Nat.le_of_ble_eq_true rfl) ?_
  intro p e s m args below meth c C hT
  refine v_eq (lv' := [(0, .ref (ad 74)), (1, .int a1), (2, .int a2), (3, .ref (ad 86))]) rfl rfl rfl ?_
  refine v_aload_n C eL_same_0 rfl 3 rfl ?_
  refine v_iconst (v := (0 : Int32)) C eL_same_1 (by decide) ?_
  refine v_aload_n C eL_same_2 rfl 0 rfl ?_
  refine v_iload_n C eL_same_3 rfl 1 rfl ?_
  refine v_iload_n C eL_same_4 rfl 2 rfl ?_
  refine x_runV (As := [.int a1, .int a2]) (rest := [.int ((0 : Int32)), .ref (ad 86)]) C hnoL mL_39 (p_same hl I (fun k hk => hN k (by omega)) F a1 a2) ((nW_at I (hN 74 (by decide))).trans (congrArg some F.1)) (vRm_fit (by decide) (by decide)) ⟨Nat.le_of_ble_eq_true rfl, Nat.le_of_ble_eq_true rfl⟩ rfl rfl (Nat.le_of_ble_eq_true rfl) eL_same_5 ?_ (fun r w' hp => ?_)
  · intro E ce q H locs ls hx h1 h2 h3 hce hcv hcl
    obtain ⟨rfl, hk⟩ := hx
    refine l_catch (E := eIAE) (w := nW ad N σ) C hT [] [] rfl (fun z hz => absurd hz List.not_mem_nil) ⟨by decide, by decide⟩ (by decide) clL_19 ca_IAE h1 h2 h3 hce hcv hcl ?_
    refine v_astore (lv' := [(0, .ref (ad 74)), (1, .int a1), (2, .int a2), (3, .ref (ad 86)), (4, .ref q)]) C eL_same_20 (by decide) [1, 2, 3, 4, 0] rfl ?_
    refine v_iconst (v := (1 : Int32)) C eL_same_22 (by decide) ?_
    refine x_ret ?_
    refine v_wide (k := 2) (n := 12) (Nat.le_of_ble_eq_true rfl) (Nat.le_of_ble_eq_true rfl) ?_
    exact v_iret C rfl eL_same_23 ⟨σ, rfl, fun _ _ => rfl, by rw [hk], fun h => absurd (hk.symm.trans h) (by decide)⟩
  · obtain ⟨σ1, rfl, g1, g2, rfl⟩ := hp
    have g86 : σ1 86 = eJ G 1 f0 := (g1 86 (by decide)).trans h86
    have g3 := z_sameV g2
    refine v_if_eq (tgt := 15) C eL_same_8 (by decide) (fun h => absurd h (fun h => absurd (g3.symm.trans h) (by decide))) (fun _ => ?_)
    refine v_lconst (v := (1 : Int64)) C eL_same_11 (by decide) ?_
    refine v_goto (tgt := 16) C eL_same_12 (by decide) ?_
    refine n_last C I eL_same_16 (hN 86 (by decide)) g86 0 (rfl : (0 : Int32) = nI 0) (by omega) (by decide) ?_
    refine v_goto (tgt := 24) C eL_same_17 (by decide) ?_
    refine v_iconst (v := (0 : Int32)) C eL_same_24 (by decide) ?_
    refine x_ret ?_
    refine v_wide (k := 2) (n := 12) (Nat.le_of_ble_eq_true rfl) (Nat.le_of_ble_eq_true rfl) ?_
    exact v_iret C rfl eL_same_25 ⟨_, rfl, fun j hj => (n_ne (by omega)).trans (g1 j (by omega)), by rw [g2], fun _ => ⟨_, n_self, by rw [g3]; rfl⟩⟩
set_option maxRecDepth 100000 in
set_option maxHeartbeats 4000000 in
theorem w_slhKeys (hl : l.stackTraces = false) (I : nI1 ad N) (hN : ∀ k, k < 87 → k < N) (F : CF G ad x4 x6 x7 σ) (h86 : σ 86 = eJ G 1 f0) (a1 : Int32) : lOk G B l yL_slhKeys cL_slhKeys 4 [(0, 9, 12, 19), (0, 9, 15, 46)] 8 2 12 [.ref (ad 74), .int a1, .ref (ad 86)] (nW ad N σ) (fun r w' => ∃ σ', w' = nW ad N σ' ∧ (∀ j, j < 74 → σ' j = σ j) ∧ r = some (.int (sp_keys θ S0 [] a1).1) ∧ ((sp_keys θ S0 [] a1).1 = 0 → ∃ f : Nat → Int64, σ' 86 = eJ G 1 f ∧ f 0 = ((sp_keys θ S0 [] a1).2.1).toInt64)) := by
  refine lOk.of (by decide +kernel) (Nat.le_of_ble_eq_true rfl) ?_
  intro p e s m args below meth c C hT
  refine v_eq (lv' := [(0, .ref (ad 74)), (1, .int a1), (2, .ref (ad 86))]) rfl rfl rfl ?_
  refine v_aload_n C eL_slhKeys_0 rfl 2 rfl ?_
  refine v_iconst (v := (0 : Int32)) C eL_slhKeys_1 (by decide) ?_
  refine v_aload_n C eL_slhKeys_2 rfl 0 rfl ?_
  refine v_iload_n C eL_slhKeys_3 rfl 1 rfl ?_
  refine x_runV (As := [.int a1]) (rest := [.int ((0 : Int32)), .ref (ad 86)]) C hnoL mL_43 (p_keys (θ := θ) hl I (fun k hk => hN k (by omega)) F a1) ((nW_at I (hN 74 (by decide))).trans (congrArg some F.1)) (vRm_fit (by decide) (by decide)) ⟨Nat.le_of_ble_eq_true rfl, Nat.le_of_ble_eq_true rfl⟩ rfl rfl (Nat.le_of_ble_eq_true rfl) eL_slhKeys_4 ?_ (fun r w' hp => ?_)
  · intro E ce q H locs ls hx h1 h2 h3 hce hcv hcl
    rcases hx with ⟨rfl, hk⟩ | ⟨rfl, hk⟩
    · refine l_catch (E := eIAE) (w := nW ad N σ) C hT [] [(0, 9, 15, 46)] rfl (fun z hz => absurd hz List.not_mem_nil) ⟨by decide, by decide⟩ (by decide) clL_19 ca_IAE h1 h2 h3 hce hcv hcl ?_
      refine v_astore_n (lv' := [(0, .ref (ad 74)), (1, .int a1), (2, .ref (ad 86)), (3, .ref q)]) C eL_slhKeys_12 rfl (by decide) [1, 2, 3, 0] rfl ?_
      refine v_iconst (v := (1 : Int32)) C eL_slhKeys_13 (by decide) ?_
      refine x_ret ?_
      refine v_wide (k := 2) (n := 12) (Nat.le_of_ble_eq_true rfl) (Nat.le_of_ble_eq_true rfl) ?_
      exact v_iret C rfl eL_slhKeys_14 ⟨σ, rfl, fun _ _ => rfl, by rw [hk], fun h => absurd (hk.symm.trans h) (by decide)⟩
    · refine l_catch (E := eISE) (w := nW ad N σ) C hT [(0, 9, 12, 19)] [] rfl (by simp only [List.forall_mem_cons]; exact ⟨⟨by decide, _, clL_19, by decide⟩, fun _ h => absurd h List.not_mem_nil⟩) ⟨by decide, by decide⟩ (by decide) clL_46 ca_ISE h1 h2 h3 hce hcv hcl ?_
      refine v_astore_n (lv' := [(0, .ref (ad 74)), (1, .int a1), (2, .ref (ad 86)), (3, .ref q)]) C eL_slhKeys_15 rfl (by decide) [1, 2, 3, 0] rfl ?_
      refine v_iconst (v := (2 : Int32)) C eL_slhKeys_16 (by decide) ?_
      refine x_ret ?_
      refine v_wide (k := 2) (n := 12) (Nat.le_of_ble_eq_true rfl) (Nat.le_of_ble_eq_true rfl) ?_
      exact v_iret C rfl eL_slhKeys_17 ⟨σ, rfl, fun _ _ => rfl, by rw [hk], fun h => absurd (hk.symm.trans h) (by decide)⟩
  · obtain ⟨σ1, rfl, g1, g2, rfl⟩ := hp
    exact absurd g2 z_keysN
set_option maxRecDepth 100000 in
set_option maxHeartbeats 4000000 in
theorem w_slhSign (hl : l.stackTraces = false) (I : nI1 ad N) (hN : ∀ k, k < 87 → k < N) (F : CF G ad x4 x6 x7 σ) (h86 : σ 86 = eJ G 1 f0) (a1 a2 : Int32) : lOk G B l yL_slhSign cL_slhSign 5 [(0, 10, 13, 19), (0, 10, 17, 46), (0, 10, 21, 51)] 8 4 24 [.ref (ad 74), .int a1, .int a2, .ref (ad 86)] (nW ad N σ) (fun r w' => ∃ σ', w' = nW ad N σ' ∧ (∀ j, j < 74 → σ' j = σ j) ∧ r = some (.int (sp_sign θ S0 [] a1 a2).1) ∧ ((sp_sign θ S0 [] a1 a2).1 = 0 → ∃ f : Nat → Int64, σ' 86 = eJ G 1 f ∧ f 0 = ((sp_sign θ S0 [] a1 a2).2.1).toInt64)) := by
  refine lOk.of (by decide +kernel) (Nat.le_of_ble_eq_true rfl) ?_
  intro p e s m args below meth c C hT
  refine v_eq (lv' := [(0, .ref (ad 74)), (1, .int a1), (2, .int a2), (3, .ref (ad 86))]) rfl rfl rfl ?_
  refine v_aload_n C eL_slhSign_0 rfl 3 rfl ?_
  refine v_iconst (v := (0 : Int32)) C eL_slhSign_1 (by decide) ?_
  refine v_aload_n C eL_slhSign_2 rfl 0 rfl ?_
  refine v_iload_n C eL_slhSign_3 rfl 1 rfl ?_
  refine v_iload_n C eL_slhSign_4 rfl 2 rfl ?_
  refine x_runV (As := [.int a1, .int a2]) (rest := [.int ((0 : Int32)), .ref (ad 86)]) C hnoL mL_48 (p_sign (θ := θ) hl I (fun k hk => hN k (by omega)) F a1 a2) ((nW_at I (hN 74 (by decide))).trans (congrArg some F.1)) (vRm_fit (by decide) (by decide)) ⟨Nat.le_of_ble_eq_true rfl, Nat.le_of_ble_eq_true rfl⟩ rfl rfl (Nat.le_of_ble_eq_true rfl) eL_slhSign_5 ?_ (fun r w' hp => ?_)
  · intro E ce q H locs ls hx h1 h2 h3 hce hcv hcl
    rcases hx with ⟨rfl, hk⟩ | ⟨rfl, hk⟩
    · refine l_catch (E := eIAE) (w := nW ad N σ) C hT [] [(0, 10, 17, 46), (0, 10, 21, 51)] rfl (fun z hz => absurd hz List.not_mem_nil) ⟨by decide, by decide⟩ (by decide) clL_19 ca_IAE h1 h2 h3 hce hcv hcl ?_
      refine v_astore (lv' := [(0, .ref (ad 74)), (1, .int a1), (2, .int a2), (3, .ref (ad 86)), (4, .ref q)]) C eL_slhSign_13 (by decide) [1, 2, 3, 4, 0] rfl ?_
      refine v_iconst (v := (1 : Int32)) C eL_slhSign_15 (by decide) ?_
      refine x_ret ?_
      refine v_wide (k := 4) (n := 24) (Nat.le_of_ble_eq_true rfl) (Nat.le_of_ble_eq_true rfl) ?_
      exact v_iret C rfl eL_slhSign_16 ⟨σ, rfl, fun _ _ => rfl, by rw [hk], fun h => absurd (hk.symm.trans h) (by decide)⟩
    · refine l_catch (E := eUOE) (w := nW ad N σ) C hT [(0, 10, 13, 19), (0, 10, 17, 46)] [] rfl (by simp only [List.forall_mem_cons]; exact ⟨⟨by decide, _, clL_19, by decide⟩, ⟨by decide, _, clL_46, by decide⟩, fun _ h => absurd h List.not_mem_nil⟩) ⟨by decide, by decide⟩ (by decide) clL_51 ca_UOE h1 h2 h3 hce hcv hcl ?_
      refine v_astore (lv' := [(0, .ref (ad 74)), (1, .int a1), (2, .int a2), (3, .ref (ad 86)), (4, .ref q)]) C eL_slhSign_21 (by decide) [1, 2, 3, 4, 0] rfl ?_
      refine v_iconst (v := (3 : Int32)) C eL_slhSign_23 (by decide) ?_
      refine x_ret ?_
      refine v_wide (k := 4) (n := 24) (Nat.le_of_ble_eq_true rfl) (Nat.le_of_ble_eq_true rfl) ?_
      exact v_iret C rfl eL_slhSign_24 ⟨σ, rfl, fun _ _ => rfl, by rw [hk], fun h => absurd (hk.symm.trans h) (by decide)⟩
  · obtain ⟨σ1, rfl, g1, g2, rfl⟩ := hp
    exact absurd g2 z_signN
set_option maxRecDepth 100000 in
set_option maxHeartbeats 4000000 in
theorem w_slhVerify (hl : l.stackTraces = false) (I : nI1 ad N) (hN : ∀ k, k < 87 → k < N) (F : CF G ad x4 x6 x7 σ) (h86 : σ 86 = eJ G 1 f0) (a1 a2 : Int32) : lOk G B l yL_slhVerify cL_slhVerify 5 [(0, 17, 20, 19), (0, 17, 24, 46), (0, 17, 28, 51)] 8 4 24 [.ref (ad 74), .int a1, .int a2, .ref (ad 86)] (nW ad N σ) (fun r w' => ∃ σ', w' = nW ad N σ' ∧ (∀ j, j < 74 → σ' j = σ j) ∧ r = some (.int (sp_verify θ S0 [] a1 a2).1) ∧ ((sp_verify θ S0 [] a1 a2).1 = 0 → ∃ f : Nat → Int64, σ' 86 = eJ G 1 f ∧ f 0 = ((sp_verify θ S0 [] a1 a2).2.1).toInt64)) := by
  refine lOk.of (by decide +kernel) (Nat.le_of_ble_eq_true rfl) ?_
  intro p e s m args below meth c C hT
  refine v_eq (lv' := [(0, .ref (ad 74)), (1, .int a1), (2, .int a2), (3, .ref (ad 86))]) rfl rfl rfl ?_
  refine v_aload_n C eL_slhVerify_0 rfl 3 rfl ?_
  refine v_iconst (v := (0 : Int32)) C eL_slhVerify_1 (by decide) ?_
  refine v_aload_n C eL_slhVerify_2 rfl 0 rfl ?_
  refine v_iload_n C eL_slhVerify_3 rfl 1 rfl ?_
  refine v_iload_n C eL_slhVerify_4 rfl 2 rfl ?_
  refine x_runV (As := [.int a1, .int a2]) (rest := [.int ((0 : Int32)), .ref (ad 86)]) C hnoL mL_53 (p_verify (θ := θ) hl I (fun k hk => hN k (by omega)) F a1 a2) ((nW_at I (hN 74 (by decide))).trans (congrArg some F.1)) (vRm_fit (by decide) (by decide)) ⟨Nat.le_of_ble_eq_true rfl, Nat.le_of_ble_eq_true rfl⟩ rfl rfl (Nat.le_of_ble_eq_true rfl) eL_slhVerify_5 ?_ (fun r w' hp => ?_)
  · intro E ce q H locs ls hx h1 h2 h3 hce hcv hcl
    rcases hx with ⟨rfl, hk⟩ | ⟨rfl, hk⟩
    · refine l_catch (E := eIAE) (w := nW ad N σ) C hT [] [(0, 17, 24, 46), (0, 17, 28, 51)] rfl (fun z hz => absurd hz List.not_mem_nil) ⟨by decide, by decide⟩ (by decide) clL_19 ca_IAE h1 h2 h3 hce hcv hcl ?_
      refine v_astore (lv' := [(0, .ref (ad 74)), (1, .int a1), (2, .int a2), (3, .ref (ad 86)), (4, .ref q)]) C eL_slhVerify_20 (by decide) [1, 2, 3, 4, 0] rfl ?_
      refine v_iconst (v := (1 : Int32)) C eL_slhVerify_22 (by decide) ?_
      refine x_ret ?_
      refine v_wide (k := 4) (n := 24) (Nat.le_of_ble_eq_true rfl) (Nat.le_of_ble_eq_true rfl) ?_
      exact v_iret C rfl eL_slhVerify_23 ⟨σ, rfl, fun _ _ => rfl, by rw [hk], fun h => absurd (hk.symm.trans h) (by decide)⟩
    · refine l_catch (E := eUOE) (w := nW ad N σ) C hT [(0, 17, 20, 19), (0, 17, 24, 46)] [] rfl (by simp only [List.forall_mem_cons]; exact ⟨⟨by decide, _, clL_19, by decide⟩, ⟨by decide, _, clL_46, by decide⟩, fun _ h => absurd h List.not_mem_nil⟩) ⟨by decide, by decide⟩ (by decide) clL_51 ca_UOE h1 h2 h3 hce hcv hcl ?_
      refine v_astore (lv' := [(0, .ref (ad 74)), (1, .int a1), (2, .int a2), (3, .ref (ad 86)), (4, .ref q)]) C eL_slhVerify_28 (by decide) [1, 2, 3, 4, 0] rfl ?_
      refine v_iconst (v := (3 : Int32)) C eL_slhVerify_30 (by decide) ?_
      refine x_ret ?_
      refine v_wide (k := 4) (n := 24) (Nat.le_of_ble_eq_true rfl) (Nat.le_of_ble_eq_true rfl) ?_
      exact v_iret C rfl eL_slhVerify_31 ⟨σ, rfl, fun _ _ => rfl, by rw [hk], fun h => absurd (hk.symm.trans h) (by decide)⟩
  · obtain ⟨σ1, rfl, g1, g2, rfl⟩ := hp
    exact absurd g2 z_verifyN
set_option maxRecDepth 100000 in
set_option maxHeartbeats 4000000 in
theorem w_slhNode (hl : l.stackTraces = false) (I : nI1 ad N) (hN : ∀ k, k < 87 → k < N) (F : CF G ad x4 x6 x7 σ) (h86 : σ 86 = eJ G 1 f0) (a1 a2 a3 a4 a5 : Int32) : lOk G B l yL_slhNode cL_slhNode 8 [(0, 16, 19, 19), (0, 16, 23, 51)] 8 2 12 [.ref (ad 74), .int a1, .int a2, .int a3, .int a4, .int a5, .ref (ad 86)] (nW ad N σ) (fun r w' => ∃ σ', w' = nW ad N σ' ∧ (∀ j, j < 74 → σ' j = σ j) ∧ r = some (.int (sp_node θ S0 [] a1 a2 a3 a4 a5).1) ∧ ((sp_node θ S0 [] a1 a2 a3 a4 a5).1 = 0 → ∃ f : Nat → Int64, σ' 86 = eJ G 1 f ∧ f 0 = ((sp_node θ S0 [] a1 a2 a3 a4 a5).2.1).toInt64)) := by
  refine lOk.of (by decide +kernel) (Nat.le_of_ble_eq_true rfl) ?_
  intro p e s m args below meth c C hT
  refine v_eq (lv' := [(0, .ref (ad 74)), (1, .int a1), (2, .int a2), (3, .int a3), (4, .int a4), (5, .int a5), (6, .ref (ad 86))]) rfl rfl rfl ?_
  refine v_aload C eL_slhNode_0 6 rfl ?_
  refine v_iconst (v := (0 : Int32)) C eL_slhNode_2 (by decide) ?_
  refine v_aload_n C eL_slhNode_3 rfl 0 rfl ?_
  refine v_iload_n C eL_slhNode_4 rfl 1 rfl ?_
  refine v_iload_n C eL_slhNode_5 rfl 2 rfl ?_
  refine v_iload_n C eL_slhNode_6 rfl 3 rfl ?_
  refine v_iload C eL_slhNode_7 4 rfl ?_
  refine v_iload C eL_slhNode_9 5 rfl ?_
  refine x_runV (As := [.int a1, .int a2, .int a3, .int a4, .int a5]) (rest := [.int ((0 : Int32)), .ref (ad 86)]) C hnoL mL_56 (p_node (θ := θ) hl I (fun k hk => hN k (by omega)) F a1 a2 a3 a4 a5) ((nW_at I (hN 74 (by decide))).trans (congrArg some F.1)) (vRm_fit (by decide) (by decide)) ⟨Nat.le_of_ble_eq_true rfl, Nat.le_of_ble_eq_true rfl⟩ rfl rfl (Nat.le_of_ble_eq_true rfl) eL_slhNode_11 ?_ (fun r w' hp => ?_)
  · intro E ce q H locs ls hx h1 h2 h3 hce hcv hcl
    rcases hx with ⟨rfl, hk⟩ | ⟨rfl, hk⟩
    · refine l_catch (E := eIAE) (w := nW ad N σ) C hT [] [(0, 16, 23, 51)] rfl (fun z hz => absurd hz List.not_mem_nil) ⟨by decide, by decide⟩ (by decide) clL_19 ca_IAE h1 h2 h3 hce hcv hcl ?_
      refine v_astore (lv' := [(0, .ref (ad 74)), (1, .int a1), (2, .int a2), (3, .int a3), (4, .int a4), (5, .int a5), (6, .ref (ad 86)), (7, .ref q)]) C eL_slhNode_19 (by decide) [1, 2, 3, 4, 5, 6, 7, 0] rfl ?_
      refine v_iconst (v := (1 : Int32)) C eL_slhNode_21 (by decide) ?_
      refine x_ret ?_
      refine v_wide (k := 2) (n := 12) (Nat.le_of_ble_eq_true rfl) (Nat.le_of_ble_eq_true rfl) ?_
      exact v_iret C rfl eL_slhNode_22 ⟨σ, rfl, fun _ _ => rfl, by rw [hk], fun h => absurd (hk.symm.trans h) (by decide)⟩
    · refine l_catch (E := eUOE) (w := nW ad N σ) C hT [(0, 16, 19, 19)] [] rfl (by simp only [List.forall_mem_cons]; exact ⟨⟨by decide, _, clL_19, by decide⟩, fun _ h => absurd h List.not_mem_nil⟩) ⟨by decide, by decide⟩ (by decide) clL_51 ca_UOE h1 h2 h3 hce hcv hcl ?_
      refine v_astore (lv' := [(0, .ref (ad 74)), (1, .int a1), (2, .int a2), (3, .int a3), (4, .int a4), (5, .int a5), (6, .ref (ad 86)), (7, .ref q)]) C eL_slhNode_23 (by decide) [1, 2, 3, 4, 5, 6, 7, 0] rfl ?_
      refine v_iconst (v := (2 : Int32)) C eL_slhNode_25 (by decide) ?_
      refine x_ret ?_
      refine v_wide (k := 2) (n := 12) (Nat.le_of_ble_eq_true rfl) (Nat.le_of_ble_eq_true rfl) ?_
      exact v_iret C rfl eL_slhNode_26 ⟨σ, rfl, fun _ _ => rfl, by rw [hk], fun h => absurd (hk.symm.trans h) (by decide)⟩
  · obtain ⟨σ1, rfl, g1, g2, rfl⟩ := hp
    exact absurd g2 z_nodeN
end LWM
