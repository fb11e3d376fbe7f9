theorem eX11_feed_0 : vD cX11_feed 0 (.aload_n 0) 1 1 := ⟨by decide +kernel, rfl⟩
theorem eX11_feed_1 : vD cX11_feed 1 (.getfield 23) 3 4 := ⟨by decide +kernel, rfl⟩
theorem eX11_feed_4 : vD cX11_feed 4 (.ldc 52) 2 6 := ⟨by decide +kernel, rfl⟩
theorem eX11_feed_6 : vD cX11_feed 6 (.if_icmp .le 13) 3 9 := ⟨by decide +kernel, rfl⟩
theorem eX11_feed_9 : vD cX11_feed 9 (.new 53) 3 12 := ⟨by decide +kernel, rfl⟩
theorem eX11_feed_12 : vD cX11_feed 12 .dup 1 13 := ⟨by decide +kernel, rfl⟩
theorem eX11_feed_13 : vD cX11_feed 13 (.ldc 55) 2 15 := ⟨by decide +kernel, rfl⟩
theorem eX11_feed_15 : vD cX11_feed 15 (.invokespecial 57) 3 18 := ⟨by decide +kernel, rfl⟩
theorem eX11_feed_18 : vD cX11_feed 18 .athrow 1 19 := ⟨by decide +kernel, rfl⟩
theorem eX11_feed_19 : vD cX11_feed 19 (.aload_n 0) 1 20 := ⟨by decide +kernel, rfl⟩
theorem eX11_feed_20 : vD cX11_feed 20 (.iload_n 1) 1 21 := ⟨by decide +kernel, rfl⟩
theorem eX11_feed_21 : vD cX11_feed 21 (.invokevirtual 60) 3 24 := ⟨by decide +kernel, rfl⟩
theorem eX11_feed_24 : vD cX11_feed 24 (.aload_n 0) 1 25 := ⟨by decide +kernel, rfl⟩
theorem eX11_feed_25 : vD cX11_feed 25 (.iload_n 2) 1 26 := ⟨by decide +kernel, rfl⟩
theorem eX11_feed_26 : vD cX11_feed 26 (.invokevirtual 60) 3 29 := ⟨by decide +kernel, rfl⟩
theorem eX11_feed_29 : vD cX11_feed 29 (.aload_n 0) 1 30 := ⟨by decide +kernel, rfl⟩
theorem eX11_feed_30 : vD cX11_feed 30 (.iload_n 3) 1 31 := ⟨by decide +kernel, rfl⟩
theorem eX11_feed_31 : vD cX11_feed 31 (.invokevirtual 60) 3 34 := ⟨by decide +kernel, rfl⟩
theorem eX11_feed_34 : vD cX11_feed 34 (.aload_n 0) 1 35 := ⟨by decide +kernel, rfl⟩
theorem eX11_feed_35 : vD cX11_feed 35 (.iload 4) 2 37 := ⟨by decide +kernel, rfl⟩
theorem eX11_feed_37 : vD cX11_feed 37 (.invokevirtual 60) 3 40 := ⟨by decide +kernel, rfl⟩
theorem eX11_feed_40 : vD cX11_feed 40 (.aload_n 0) 1 41 := ⟨by decide +kernel, rfl⟩
theorem eX11_feed_41 : vD cX11_feed 41 (.iload 5) 2 43 := ⟨by decide +kernel, rfl⟩
theorem eX11_feed_43 : vD cX11_feed 43 (.invokevirtual 60) 3 46 := ⟨by decide +kernel, rfl⟩
theorem eX11_feed_46 : vD cX11_feed 46 (.aload_n 0) 1 47 := ⟨by decide +kernel, rfl⟩
theorem eX11_feed_47 : vD cX11_feed 47 (.getfield 23) 3 50 := ⟨by decide +kernel, rfl⟩
theorem eX11_feed_50 : vD cX11_feed 50 .ireturn 1 51 := ⟨by decide +kernel, rfl⟩
theorem eX11_end_0 : vD cX11_end 0 (.iload_n 1) 1 1 := ⟨by decide +kernel, rfl⟩
theorem eX11_end_1 : vD cX11_end 1 (.invokestatic 64) 3 4 := ⟨by decide +kernel, rfl⟩
theorem eX11_end_4 : vD cX11_end 4 (.iload_n 2) 1 5 := ⟨by decide +kernel, rfl⟩
theorem eX11_end_5 : vD cX11_end 5 (.invokestatic 67) 3 8 := ⟨by decide +kernel, rfl⟩
theorem eX11_end_8 : vD cX11_end 8 (.iload_n 2) 1 9 := ⟨by decide +kernel, rfl⟩
theorem eX11_end_9 : vD cX11_end 9 (.aload_n 0) 1 10 := ⟨by decide +kernel, rfl⟩
theorem eX11_end_10 : vD cX11_end 10 (.getfield 23) 3 13 := ⟨by decide +kernel, rfl⟩
theorem eX11_end_13 : vD cX11_end 13 (.if_icmp .le 13) 3 16 := ⟨by decide +kernel, rfl⟩
theorem eX11_end_16 : vD cX11_end 16 (.new 53) 3 19 := ⟨by decide +kernel, rfl⟩
theorem eX11_end_19 : vD cX11_end 19 .dup 1 20 := ⟨by decide +kernel, rfl⟩
theorem eX11_end_20 : vD cX11_end 20 (.ldc 70) 2 22 := ⟨by decide +kernel, rfl⟩
theorem eX11_end_22 : vD cX11_end 22 (.invokespecial 57) 3 25 := ⟨by decide +kernel, rfl⟩
theorem eX11_end_25 : vD cX11_end 25 .athrow 1 26 := ⟨by decide +kernel, rfl⟩
theorem eX11_end_26 : vD cX11_end 26 (.aload_n 0) 1 27 := ⟨by decide +kernel, rfl⟩
theorem eX11_end_27 : vD cX11_end 27 (.iload_n 1) 1 28 := ⟨by decide +kernel, rfl⟩
theorem eX11_end_28 : vD cX11_end 28 (.aload_n 0) 1 29 := ⟨by decide +kernel, rfl⟩
theorem eX11_end_29 : vD cX11_end 29 (.getfield 19) 3 32 := ⟨by decide +kernel, rfl⟩
theorem eX11_end_32 : vD cX11_end 32 (.iload_n 2) 1 33 := ⟨by decide +kernel, rfl⟩
theorem eX11_end_33 : vD cX11_end 33 (.invokevirtual 72) 3 36 := ⟨by decide +kernel, rfl⟩
theorem eX11_end_36 : vD cX11_end 36 (.aload_n 0) 1 37 := ⟨by decide +kernel, rfl⟩
theorem eX11_end_37 : vD cX11_end 37 (.iconst 0) 1 38 := ⟨by decide +kernel, rfl⟩
theorem eX11_end_38 : vD cX11_end 38 (.putfield 23) 3 41 := ⟨by decide +kernel, rfl⟩
theorem eX11_end_41 : vD cX11_end 41 (.iload_n 2) 1 42 := ⟨by decide +kernel, rfl⟩
theorem eX11_end_42 : vD cX11_end 42 .ireturn 1 43 := ⟨by decide +kernel, rfl⟩
theorem eX11_copy_0 : vD cX11_copy 0 (.iload_n 1) 1 1 := ⟨by decide +kernel, rfl⟩
theorem eX11_copy_1 : vD cX11_copy 1 (.invokestatic 64) 3 4 := ⟨by decide +kernel, rfl⟩
theorem eX11_copy_4 : vD cX11_copy 4 (.iload_n 2) 1 5 := ⟨by decide +kernel, rfl⟩
theorem eX11_copy_5 : vD cX11_copy 5 (.invokestatic 64) 3 8 := ⟨by decide +kernel, rfl⟩
theorem eX11_copy_8 : vD cX11_copy 8 (.aload_n 0) 1 9 := ⟨by decide +kernel, rfl⟩
theorem eX11_copy_9 : vD cX11_copy 9 (.iload_n 2) 1 10 := ⟨by decide +kernel, rfl⟩
theorem eX11_copy_10 : vD cX11_copy 10 (.aload_n 0) 1 11 := ⟨by decide +kernel, rfl⟩
theorem eX11_copy_11 : vD cX11_copy 11 (.getfield 12) 3 14 := ⟨by decide +kernel, rfl⟩
theorem eX11_copy_14 : vD cX11_copy 14 (.iload_n 1) 1 15 := ⟨by decide +kernel, rfl⟩
theorem eX11_copy_15 : vD cX11_copy 15 .aaload 1 16 := ⟨by decide +kernel, rfl⟩
theorem eX11_copy_16 : vD cX11_copy 16 (.aload_n 0) 1 17 := ⟨by decide +kernel, rfl⟩
theorem eX11_copy_17 : vD cX11_copy 17 (.getfield 15) 3 20 := ⟨by decide +kernel, rfl⟩
theorem eX11_copy_20 : vD cX11_copy 20 (.iload_n 1) 1 21 := ⟨by decide +kernel, rfl⟩
theorem eX11_copy_21 : vD cX11_copy 21 .iaload 1 22 := ⟨by decide +kernel, rfl⟩
theorem eX11_copy_22 : vD cX11_copy 22 (.invokevirtual 72) 3 25 := ⟨by decide +kernel, rfl⟩
theorem eX11_copy_25 : vD cX11_copy 25 (.aload_n 0) 1 26 := ⟨by decide +kernel, rfl⟩
theorem eX11_copy_26 : vD cX11_copy 26 (.getfield 15) 3 29 := ⟨by decide +kernel, rfl⟩
theorem eX11_copy_29 : vD cX11_copy 29 (.iload_n 2) 1 30 := ⟨by decide +kernel, rfl⟩
theorem eX11_copy_30 : vD cX11_copy 30 .iaload 1 31 := ⟨by decide +kernel, rfl⟩
theorem eX11_copy_31 : vD cX11_copy 31 .ireturn 1 32 := ⟨by decide +kernel, rfl⟩
theorem eX11_resize_0 : vD cX11_resize 0 (.iload_n 1) 1 1 := ⟨by decide +kernel, rfl⟩
theorem eX11_resize_1 : vD cX11_resize 1 (.invokestatic 64) 3 4 := ⟨by decide +kernel, rfl⟩
theorem eX11_resize_4 : vD cX11_resize 4 (.iload_n 2) 1 5 := ⟨by decide +kernel, rfl⟩
theorem eX11_resize_5 : vD cX11_resize 5 (.invokestatic 67) 3 8 := ⟨by decide +kernel, rfl⟩
theorem eX11_resize_8 : vD cX11_resize 8 (.aload_n 0) 1 9 := ⟨by decide +kernel, rfl⟩
theorem eX11_resize_9 : vD cX11_resize 9 (.getfield 15) 3 12 := ⟨by decide +kernel, rfl⟩
theorem eX11_resize_12 : vD cX11_resize 12 (.iload_n 1) 1 13 := ⟨by decide +kernel, rfl⟩
theorem eX11_resize_13 : vD cX11_resize 13 .iaload 1 14 := ⟨by decide +kernel, rfl⟩
theorem eX11_resize_14 : vD cX11_resize 14 (.istore_n 3) 1 15 := ⟨by decide +kernel, rfl⟩
theorem eX11_resize_15 : vD cX11_resize 15 (.iload_n 2) 1 16 := ⟨by decide +kernel, rfl⟩
theorem eX11_resize_16 : vD cX11_resize 16 (.iload_n 3) 1 17 := ⟨by decide +kernel, rfl⟩
theorem eX11_resize_17 : vD cX11_resize 17 (.if_icmp .le 15) 3 20 := ⟨by decide +kernel, rfl⟩
theorem eX11_resize_20 : vD cX11_resize 20 (.aload_n 0) 1 21 := ⟨by decide +kernel, rfl⟩
theorem eX11_resize_21 : vD cX11_resize 21 (.getfield 12) 3 24 := ⟨by decide +kernel, rfl⟩
theorem eX11_resize_24 : vD cX11_resize 24 (.iload_n 1) 1 25 := ⟨by decide +kernel, rfl⟩
theorem eX11_resize_25 : vD cX11_resize 25 .aaload 1 26 := ⟨by decide +kernel, rfl⟩
theorem eX11_resize_26 : vD cX11_resize 26 (.iload_n 3) 1 27 := ⟨by decide +kernel, rfl⟩
theorem eX11_resize_27 : vD cX11_resize 27 (.iload_n 2) 1 28 := ⟨by decide +kernel, rfl⟩
theorem eX11_resize_28 : vD cX11_resize 28 (.iconst 0) 1 29 := ⟨by decide +kernel, rfl⟩
theorem eX11_resize_29 : vD cX11_resize 29 (.invokestatic 76) 3 32 := ⟨by decide +kernel, rfl⟩
theorem eX11_resize_32 : vD cX11_resize 32 (.aload_n 0) 1 33 := ⟨by decide +kernel, rfl⟩
theorem eX11_resize_33 : vD cX11_resize 33 (.getfield 15) 3 36 := ⟨by decide +kernel, rfl⟩
theorem eX11_resize_36 : vD cX11_resize 36 (.iload_n 1) 1 37 := ⟨by decide +kernel, rfl⟩
theorem eX11_resize_37 : vD cX11_resize 37 (.iload_n 2) 1 38 := ⟨by decide +kernel, rfl⟩
theorem eX11_resize_38 : vD cX11_resize 38 .iastore 1 39 := ⟨by decide +kernel, rfl⟩
theorem eX11_resize_39 : vD cX11_resize 39 (.iload_n 3) 1 40 := ⟨by decide +kernel, rfl⟩
theorem eX11_resize_40 : vD cX11_resize 40 .ireturn 1 41 := ⟨by decide +kernel, rfl⟩
theorem eX11_alter_0 : vD cX11_alter 0 (.iload_n 1) 1 1 := ⟨by decide +kernel, rfl⟩
theorem eX11_alter_1 : vD cX11_alter 1 (.invokestatic 64) 3 4 := ⟨by decide +kernel, rfl⟩
theorem eX11_alter_4 : vD cX11_alter 4 (.iload_n 3) 1 5 := ⟨by decide +kernel, rfl⟩
theorem eX11_alter_5 : vD cX11_alter 5 (.ifCond .lt 10) 3 8 := ⟨by decide +kernel, rfl⟩
theorem eX11_alter_8 : vD cX11_alter 8 (.iload_n 3) 1 9 := ⟨by decide +kernel, rfl⟩
theorem eX11_alter_9 : vD cX11_alter 9 (.sipush 255) 3 12 := ⟨by decide +kernel, rfl⟩
theorem eX11_alter_12 : vD cX11_alter 12 (.if_icmp .le 13) 3 15 := ⟨by decide +kernel, rfl⟩
theorem eX11_alter_15 : vD cX11_alter 15 (.new 82) 3 18 := ⟨by decide +kernel, rfl⟩
theorem eX11_alter_18 : vD cX11_alter 18 .dup 1 19 := ⟨by decide +kernel, rfl⟩
theorem eX11_alter_19 : vD cX11_alter 19 (.ldc 84) 2 21 := ⟨by decide +kernel, rfl⟩
theorem eX11_alter_21 : vD cX11_alter 21 (.invokespecial 86) 3 24 := ⟨by decide +kernel, rfl⟩
theorem eX11_alter_24 : vD cX11_alter 24 .athrow 1 25 := ⟨by decide +kernel, rfl⟩
theorem eX11_alter_25 : vD cX11_alter 25 (.aload_n 0) 1 26 := ⟨by decide +kernel, rfl⟩
theorem eX11_alter_26 : vD cX11_alter 26 (.iload_n 1) 1 27 := ⟨by decide +kernel, rfl⟩
theorem eX11_alter_27 : vD cX11_alter 27 (.iload_n 2) 1 28 := ⟨by decide +kernel, rfl⟩
theorem eX11_alter_28 : vD cX11_alter 28 (.invokevirtual 87) 3 31 := ⟨by decide +kernel, rfl⟩
theorem eX11_alter_31 : vD cX11_alter 31 (.aload_n 0) 1 32 := ⟨by decide +kernel, rfl⟩
theorem eX11_alter_32 : vD cX11_alter 32 (.getfield 12) 3 35 := ⟨by decide +kernel, rfl⟩
theorem eX11_length_0 : vD cX11_length 0 (.iload_n 1) 1 1 := ⟨by decide +kernel, rfl⟩
theorem eX11_length_1 : vD cX11_length 1 (.invokestatic 64) 3 4 := ⟨by decide +kernel, rfl⟩
theorem eX11_length_4 : vD cX11_length 4 (.aload_n 0) 1 5 := ⟨by decide +kernel, rfl⟩
theorem eX11_length_5 : vD cX11_length 5 (.getfield 15) 3 8 := ⟨by decide +kernel, rfl⟩
theorem eX11_length_8 : vD cX11_length 8 (.iload_n 1) 1 9 := ⟨by decide +kernel, rfl⟩
theorem eX11_length_9 : vD cX11_length 9 .iaload 1 10 := ⟨by decide +kernel, rfl⟩
theorem eX11_length_10 : vD cX11_length 10 .ireturn 1 11 := ⟨by decide +kernel, rfl⟩
theorem eX11_word_0 : vD cX11_word 0 (.iload_n 1) 1 1 := ⟨by decide +kernel, rfl⟩
theorem eX11_word_1 : vD cX11_word 1 (.invokestatic 64) 3 4 := ⟨by decide +kernel, rfl⟩
theorem eX11_word_4 : vD cX11_word 4 (.aload_n 0) 1 5 := ⟨by decide +kernel, rfl⟩
theorem eX11_word_5 : vD cX11_word 5 (.iload_n 1) 1 6 := ⟨by decide +kernel, rfl⟩
theorem eX11_word_6 : vD cX11_word 6 (.iload_n 2) 1 7 := ⟨by decide +kernel, rfl⟩
theorem eX11_word_7 : vD cX11_word 7 (.invokevirtual 87) 3 10 := ⟨by decide +kernel, rfl⟩
theorem eX11_word_10 : vD cX11_word 10 (.lconst 0) 1 11 := ⟨by decide +kernel, rfl⟩
theorem eX11_word_11 : vD cX11_word 11 (.lstore_n 3) 1 12 := ⟨by decide +kernel, rfl⟩
theorem eX11_word_12 : vD cX11_word 12 (.iload_n 2) 1 13 := ⟨by decide +kernel, rfl⟩
theorem eX11_same_0 : vD cX11_same 0 (.iload_n 1) 1 1 := ⟨by decide +kernel, rfl⟩
theorem eX11_same_1 : vD cX11_same 1 (.invokestatic 64) 3 4 := ⟨by decide +kernel, rfl⟩
theorem eX11_same_4 : vD cX11_same 4 (.iload_n 2) 1 5 := ⟨by decide +kernel, rfl⟩
theorem eX11_same_5 : vD cX11_same 5 (.invokestatic 64) 3 8 := ⟨by decide +kernel, rfl⟩
theorem eX11_same_8 : vD cX11_same 8 (.aload_n 0) 1 9 := ⟨by decide +kernel, rfl⟩
theorem eX11_same_9 : vD cX11_same 9 (.getfield 15) 3 12 := ⟨by decide +kernel, rfl⟩
theorem eX11_same_12 : vD cX11_same 12 (.iload_n 1) 1 13 := ⟨by decide +kernel, rfl⟩
theorem eX11_same_13 : vD cX11_same 13 .iaload 1 14 := ⟨by decide +kernel, rfl⟩
theorem eX11_same_14 : vD cX11_same 14 (.aload_n 0) 1 15 := ⟨by decide +kernel, rfl⟩
theorem eX11_same_15 : vD cX11_same 15 (.getfield 15) 3 18 := ⟨by decide +kernel, rfl⟩
theorem eX11_same_18 : vD cX11_same 18 (.iload_n 2) 1 19 := ⟨by decide +kernel, rfl⟩
theorem eX11_same_19 : vD cX11_same 19 .iaload 1 20 := ⟨by decide +kernel, rfl⟩
theorem eX11_same_20 : vD cX11_same 20 (.if_icmp .ne 32) 3 23 := ⟨by decide +kernel, rfl⟩
theorem eX11_same_23 : vD cX11_same 23 (.aload_n 0) 1 24 := ⟨by decide +kernel, rfl⟩
theorem eX11_same_24 : vD cX11_same 24 (.getfield 12) 3 27 := ⟨by decide +kernel, rfl⟩
theorem eX11_same_27 : vD cX11_same 27 (.iload_n 1) 1 28 := ⟨by decide +kernel, rfl⟩
theorem eX11_same_28 : vD cX11_same 28 .aaload 1 29 := ⟨by decide +kernel, rfl⟩
theorem eX11_same_29 : vD cX11_same 29 (.aload_n 0) 1 30 := ⟨by decide +kernel, rfl⟩
theorem eX11_same_30 : vD cX11_same 30 (.getfield 12) 3 33 := ⟨by decide +kernel, rfl⟩
theorem eX11_same_33 : vD cX11_same 33 (.iload_n 2) 1 34 := ⟨by decide +kernel, rfl⟩
theorem eX11_same_34 : vD cX11_same 34 .aaload 1 35 := ⟨by decide +kernel, rfl⟩
theorem eX11_same_35 : vD cX11_same 35 (.iconst 0) 1 36 := ⟨by decide +kernel, rfl⟩
theorem eX11_same_36 : vD cX11_same 36 (.aload_n 0) 1 37 := ⟨by decide +kernel, rfl⟩
theorem eX11_same_37 : vD cX11_same 37 (.getfield 15) 3 40 := ⟨by decide +kernel, rfl⟩
theorem eX11_same_40 : vD cX11_same 40 (.iload_n 1) 1 41 := ⟨by decide +kernel, rfl⟩
theorem eX11_same_41 : vD cX11_same 41 .iaload 1 42 := ⟨by decide +kernel, rfl⟩
theorem eX11_same_42 : vD cX11_same 42 (.invokestatic 91) 3 45 := ⟨by decide +kernel, rfl⟩
theorem eX11_same_45 : vD cX11_same 45 (.ifCond .eq 7) 3 48 := ⟨by decide +kernel, rfl⟩
theorem eX11_same_48 : vD cX11_same 48 (.iconst 1) 1 49 := ⟨by decide +kernel, rfl⟩
theorem eX11_same_49 : vD cX11_same 49 (.goto 4) 3 52 := ⟨by decide +kernel, rfl⟩
theorem eX11_same_52 : vD cX11_same 52 (.iconst 0) 1 53 := ⟨by decide +kernel, rfl⟩
theorem eX11_same_53 : vD cX11_same 53 .ireturn 1 54 := ⟨by decide +kernel, rfl⟩
theorem eX11_slhKeys_0 : vD cX11_slhKeys 0 (.iload_n 1) 1 1 := ⟨by decide +kernel, rfl⟩
theorem eX11_slhKeys_1 : vD cX11_slhKeys 1 (.invokestatic 95) 3 4 := ⟨by decide +kernel, rfl⟩
theorem eX11_slhKeys_4 : vD cX11_slhKeys 4 (.iload_n 1) 1 5 := ⟨by decide +kernel, rfl⟩
theorem eX11_slhKeys_5 : vD cX11_slhKeys 5 (.invokestatic 98) 3 8 := ⟨by decide +kernel, rfl⟩
theorem eX11_slhKeys_8 : vD cX11_slhKeys 8 (.astore_n 2) 1 9 := ⟨by decide +kernel, rfl⟩
theorem eX11_slhKeys_9 : vD cX11_slhKeys 9 (.aload_n 2) 1 10 := ⟨by decide +kernel, rfl⟩
theorem eX11_slhKeys_10 : vD cX11_slhKeys 10 (.getfield 102) 3 13 := ⟨by decide +kernel, rfl⟩
theorem eX11_slhKeys_13 : vD cX11_slhKeys 13 (.istore_n 3) 1 14 := ⟨by decide +kernel, rfl⟩
theorem eX11_slhKeys_14 : vD cX11_slhKeys 14 (.aload_n 0) 1 15 := ⟨by decide +kernel, rfl⟩
theorem eX11_slhKeys_15 : vD cX11_slhKeys 15 (.getfield 15) 3 18 := ⟨by decide +kernel, rfl⟩
theorem eX11_slhKeys_18 : vD cX11_slhKeys 18 (.iconst 0) 1 19 := ⟨by decide +kernel, rfl⟩
theorem eX11_slhKeys_19 : vD cX11_slhKeys 19 .iaload 1 20 := ⟨by decide +kernel, rfl⟩
theorem eX11_slhKeys_20 : vD cX11_slhKeys 20 (.iconst 3) 1 21 := ⟨by decide +kernel, rfl⟩
theorem eX11_slhKeys_21 : vD cX11_slhKeys 21 (.iload_n 3) 1 22 := ⟨by decide +kernel, rfl⟩
theorem eX11_slhKeys_22 : vD cX11_slhKeys 22 .imul 1 23 := ⟨by decide +kernel, rfl⟩
theorem eX11_slhKeys_23 : vD cX11_slhKeys 23 (.if_icmp .eq 13) 3 26 := ⟨by decide +kernel, rfl⟩
theorem eX11_slhKeys_26 : vD cX11_slhKeys 26 (.new 107) 3 29 := ⟨by decide +kernel, rfl⟩
theorem eX11_slhKeys_29 : vD cX11_slhKeys 29 .dup 1 30 := ⟨by decide +kernel, rfl⟩
theorem eX11_slhKeys_30 : vD cX11_slhKeys 30 (.ldc 109) 2 32 := ⟨by decide +kernel, rfl⟩
theorem eX11_slhKeys_32 : vD cX11_slhKeys 32 (.invokespecial 111) 3 35 := ⟨by decide +kernel, rfl⟩
theorem eX11_slhKeys_35 : vD cX11_slhKeys 35 .athrow 1 36 := ⟨by decide +kernel, rfl⟩
theorem eX11_slhKeys_36 : vD cX11_slhKeys 36 (.aload_n 0) 1 37 := ⟨by decide +kernel, rfl⟩
theorem eX11_slhKeys_37 : vD cX11_slhKeys 37 (.iload_n 1) 1 38 := ⟨by decide +kernel, rfl⟩
theorem eX11_slhKeys_38 : vD cX11_slhKeys 38 (.invokevirtual 112) 3 41 := ⟨by decide +kernel, rfl⟩
theorem eX11_slhSign_0 : vD cX11_slhSign 0 (.iload_n 1) 1 1 := ⟨by decide +kernel, rfl⟩
theorem eX11_slhSign_1 : vD cX11_slhSign 1 (.invokestatic 95) 3 4 := ⟨by decide +kernel, rfl⟩
theorem eX11_slhSign_4 : vD cX11_slhSign 4 (.iload_n 2) 1 5 := ⟨by decide +kernel, rfl⟩
theorem eX11_slhSign_5 : vD cX11_slhSign 5 (.invokestatic 140) 3 8 := ⟨by decide +kernel, rfl⟩
theorem eX11_slhSign_8 : vD cX11_slhSign 8 (.iload_n 1) 1 9 := ⟨by decide +kernel, rfl⟩
theorem eX11_slhSign_9 : vD cX11_slhSign 9 (.invokestatic 98) 3 12 := ⟨by decide +kernel, rfl⟩
theorem eX11_slhSign_12 : vD cX11_slhSign 12 (.astore_n 3) 1 13 := ⟨by decide +kernel, rfl⟩
theorem eX11_slhSign_13 : vD cX11_slhSign 13 (.aload_n 0) 1 14 := ⟨by decide +kernel, rfl⟩
theorem eX11_slhSign_14 : vD cX11_slhSign 14 (.iload_n 2) 1 15 := ⟨by decide +kernel, rfl⟩
theorem eX11_slhSign_15 : vD cX11_slhSign 15 (.invokevirtual 143) 3 18 := ⟨by decide +kernel, rfl⟩
theorem eX11_slhSign_18 : vD cX11_slhSign 18 (.aload_n 0) 1 19 := ⟨by decide +kernel, rfl⟩
theorem eX11_slhSign_19 : vD cX11_slhSign 19 (.getfield 15) 3 22 := ⟨by decide +kernel, rfl⟩
theorem eX11_slhSign_22 : vD cX11_slhSign 22 (.iconst 0) 1 23 := ⟨by decide +kernel, rfl⟩
theorem eX11_slhSign_23 : vD cX11_slhSign 23 .iaload 1 24 := ⟨by decide +kernel, rfl⟩
theorem eX11_slhSign_24 : vD cX11_slhSign 24 (.ifCond .eq 26) 3 27 := ⟨by decide +kernel, rfl⟩
theorem eX11_slhSign_27 : vD cX11_slhSign 27 (.aload_n 0) 1 28 := ⟨by decide +kernel, rfl⟩
theorem eX11_slhSign_28 : vD cX11_slhSign 28 (.getfield 15) 3 31 := ⟨by decide +kernel, rfl⟩
theorem eX11_slhSign_31 : vD cX11_slhSign 31 (.iconst 0) 1 32 := ⟨by decide +kernel, rfl⟩
theorem eX11_slhSign_32 : vD cX11_slhSign 32 .iaload 1 33 := ⟨by decide +kernel, rfl⟩
theorem eX11_slhSign_33 : vD cX11_slhSign 33 (.aload_n 3) 1 34 := ⟨by decide +kernel, rfl⟩
theorem eX11_slhSign_34 : vD cX11_slhSign 34 (.getfield 102) 3 37 := ⟨by decide +kernel, rfl⟩
theorem eX11_slhSign_37 : vD cX11_slhSign 37 (.if_icmp .eq 13) 3 40 := ⟨by decide +kernel, rfl⟩
theorem eX11_slhSign_40 : vD cX11_slhSign 40 (.new 107) 3 43 := ⟨by decide +kernel, rfl⟩
theorem eX11_slhSign_43 : vD cX11_slhSign 43 .dup 1 44 := ⟨by decide +kernel, rfl⟩
theorem eX11_slhSign_44 : vD cX11_slhSign 44 (.ldc 146) 2 46 := ⟨by decide +kernel, rfl⟩
theorem eX11_slhSign_46 : vD cX11_slhSign 46 (.invokespecial 111) 3 49 := ⟨by decide +kernel, rfl⟩
theorem eX11_slhSign_49 : vD cX11_slhSign 49 .athrow 1 50 := ⟨by decide +kernel, rfl⟩
theorem eX11_slhSign_50 : vD cX11_slhSign 50 (.aload_n 0) 1 51 := ⟨by decide +kernel, rfl⟩
theorem eX11_slhSign_51 : vD cX11_slhSign 51 (.aload_n 3) 1 52 := ⟨by decide +kernel, rfl⟩
theorem eX11_slhSign_52 : vD cX11_slhSign 52 (.invokevirtual 148) 3 55 := ⟨by decide +kernel, rfl⟩
theorem eX11_slhSign_55 : vD cX11_slhSign 55 (.aload_n 0) 1 56 := ⟨by decide +kernel, rfl⟩
theorem eX11_slhSign_56 : vD cX11_slhSign 56 (.iload_n 1) 1 57 := ⟨by decide +kernel, rfl⟩
theorem eX11_slhSign_57 : vD cX11_slhSign 57 (.invokevirtual 112) 3 60 := ⟨by decide +kernel, rfl⟩
theorem eX11_slhSign_60 : vD cX11_slhSign 60 (.astore 4) 2 62 := ⟨by decide +kernel, rfl⟩
theorem eX11_slhVerify_0 : vD cX11_slhVerify 0 (.iload_n 1) 1 1 := ⟨by decide +kernel, rfl⟩
theorem eX11_slhVerify_1 : vD cX11_slhVerify 1 (.invokestatic 95) 3 4 := ⟨by decide +kernel, rfl⟩
theorem eX11_slhVerify_4 : vD cX11_slhVerify 4 (.iload_n 2) 1 5 := ⟨by decide +kernel, rfl⟩
theorem eX11_slhVerify_5 : vD cX11_slhVerify 5 (.invokestatic 140) 3 8 := ⟨by decide +kernel, rfl⟩
theorem eX11_slhVerify_8 : vD cX11_slhVerify 8 (.iload_n 1) 1 9 := ⟨by decide +kernel, rfl⟩
theorem eX11_slhVerify_9 : vD cX11_slhVerify 9 (.invokestatic 98) 3 12 := ⟨by decide +kernel, rfl⟩
theorem eX11_slhVerify_12 : vD cX11_slhVerify 12 (.astore_n 3) 1 13 := ⟨by decide +kernel, rfl⟩
theorem eX11_slhVerify_13 : vD cX11_slhVerify 13 (.aload_n 3) 1 14 := ⟨by decide +kernel, rfl⟩
theorem eX11_slhVerify_14 : vD cX11_slhVerify 14 (.getfield 102) 3 17 := ⟨by decide +kernel, rfl⟩
theorem eX11_slhVerify_17 : vD cX11_slhVerify 17 (.istore 4) 2 19 := ⟨by decide +kernel, rfl⟩
theorem eX11_slhVerify_19 : vD cX11_slhVerify 19 (.aload_n 0) 1 20 := ⟨by decide +kernel, rfl⟩
theorem eX11_slhVerify_20 : vD cX11_slhVerify 20 (.iload_n 2) 1 21 := ⟨by decide +kernel, rfl⟩
theorem eX11_slhVerify_21 : vD cX11_slhVerify 21 (.invokevirtual 143) 3 24 := ⟨by decide +kernel, rfl⟩
theorem eX11_slhVerify_24 : vD cX11_slhVerify 24 (.aload_n 0) 1 25 := ⟨by decide +kernel, rfl⟩
theorem eX11_slhVerify_25 : vD cX11_slhVerify 25 (.getfield 15) 3 28 := ⟨by decide +kernel, rfl⟩
theorem eX11_slhVerify_28 : vD cX11_slhVerify 28 (.iconst 1) 1 29 := ⟨by decide +kernel, rfl⟩
theorem eX11_slhVerify_29 : vD cX11_slhVerify 29 .iaload 1 30 := ⟨by decide +kernel, rfl⟩
theorem eX11_slhVerify_30 : vD cX11_slhVerify 30 (.iconst 2) 1 31 := ⟨by decide +kernel, rfl⟩
theorem eX11_slhVerify_31 : vD cX11_slhVerify 31 (.iload 4) 2 33 := ⟨by decide +kernel, rfl⟩
theorem eX11_slhVerify_33 : vD cX11_slhVerify 33 .imul 1 34 := ⟨by decide +kernel, rfl⟩
theorem eX11_slhVerify_34 : vD cX11_slhVerify 34 (.if_icmp .eq 13) 3 37 := ⟨by decide +kernel, rfl⟩
theorem eX11_slhVerify_37 : vD cX11_slhVerify 37 (.new 171) 3 40 := ⟨by decide +kernel, rfl⟩
theorem eX11_slhVerify_40 : vD cX11_slhVerify 40 .dup 1 41 := ⟨by decide +kernel, rfl⟩
theorem eX11_slhVerify_41 : vD cX11_slhVerify 41 (.ldc 173) 2 43 := ⟨by decide +kernel, rfl⟩
theorem eX11_slhVerify_43 : vD cX11_slhVerify 43 (.invokespecial 175) 3 46 := ⟨by decide +kernel, rfl⟩
theorem eX11_slhVerify_46 : vD cX11_slhVerify 46 .athrow 1 47 := ⟨by decide +kernel, rfl⟩
theorem eX11_slhVerify_47 : vD cX11_slhVerify 47 (.aload_n 0) 1 48 := ⟨by decide +kernel, rfl⟩
theorem eX11_slhVerify_48 : vD cX11_slhVerify 48 (.getfield 15) 3 51 := ⟨by decide +kernel, rfl⟩
theorem eX11_slhNode_0 : vD cX11_slhNode 0 (.iload_n 1) 1 1 := ⟨by decide +kernel, rfl⟩
theorem eX11_slhNode_1 : vD cX11_slhNode 1 (.invokestatic 95) 3 4 := ⟨by decide +kernel, rfl⟩
theorem eX11_slhNode_4 : vD cX11_slhNode 4 (.iload_n 1) 1 5 := ⟨by decide +kernel, rfl⟩
theorem eX11_slhNode_5 : vD cX11_slhNode 5 (.invokestatic 98) 3 8 := ⟨by decide +kernel, rfl⟩
theorem eX11_slhNode_8 : vD cX11_slhNode 8 (.astore 6) 2 10 := ⟨by decide +kernel, rfl⟩
theorem eX11_slhNode_10 : vD cX11_slhNode 10 (.iload_n 2) 1 11 := ⟨by decide +kernel, rfl⟩
theorem eX11_slhNode_11 : vD cX11_slhNode 11 (.ifCond .lt 16) 3 14 := ⟨by decide +kernel, rfl⟩
theorem eX11_slhNode_14 : vD cX11_slhNode 14 (.iload_n 2) 1 15 := ⟨by decide +kernel, rfl⟩
theorem eX11_slhNode_15 : vD cX11_slhNode 15 (.aload 6) 2 17 := ⟨by decide +kernel, rfl⟩
theorem eX11_slhNode_17 : vD cX11_slhNode 17 (.getfield 120) 3 20 := ⟨by decide +kernel, rfl⟩
theorem eX11_slhNode_20 : vD cX11_slhNode 20 (.if_icmp .ge 7) 3 23 := ⟨by decide +kernel, rfl⟩
theorem eX11_slhNode_23 : vD cX11_slhNode 23 (.iload_n 3) 1 24 := ⟨by decide +kernel, rfl⟩
theorem eX11_slhNode_24 : vD cX11_slhNode 24 (.ifCond .ge 13) 3 27 := ⟨by decide +kernel, rfl⟩
theorem eX11_slhNode_27 : vD cX11_slhNode 27 (.new 82) 3 30 := ⟨by decide +kernel, rfl⟩
theorem eX11_slhNode_30 : vD cX11_slhNode 30 .dup 1 31 := ⟨by decide +kernel, rfl⟩
theorem eX11_slhNode_31 : vD cX11_slhNode 31 (.ldc 188) 2 33 := ⟨by decide +kernel, rfl⟩
theorem eX11_slhNode_33 : vD cX11_slhNode 33 (.invokespecial 86) 3 36 := ⟨by decide +kernel, rfl⟩
theorem eX11_slhNode_36 : vD cX11_slhNode 36 .athrow 1 37 := ⟨by decide +kernel, rfl⟩
theorem eX11_slhNode_37 : vD cX11_slhNode 37 (.iload 4) 2 39 := ⟨by decide +kernel, rfl⟩
theorem eX11_slhNode_39 : vD cX11_slhNode 39 (.ifCond .lt 33) 3 42 := ⟨by decide +kernel, rfl⟩
theorem eX11_slhNode_42 : vD cX11_slhNode 42 (.iload 4) 2 44 := ⟨by decide +kernel, rfl⟩
theorem eX11_slhNode_44 : vD cX11_slhNode 44 (.aload 6) 2 46 := ⟨by decide +kernel, rfl⟩
theorem eX11_slhNode_46 : vD cX11_slhNode 46 (.getfield 127) 3 49 := ⟨by decide +kernel, rfl⟩
theorem eX11_slhNode_49 : vD cX11_slhNode 49 (.if_icmp .gt 23) 3 52 := ⟨by decide +kernel, rfl⟩
theorem eX11_slhNode_52 : vD cX11_slhNode 52 (.iload 5) 2 54 := ⟨by decide +kernel, rfl⟩
theorem eX11_slhNode_54 : vD cX11_slhNode 54 (.ifCond .lt 18) 3 57 := ⟨by decide +kernel, rfl⟩
theorem eX11_slhNode_57 : vD cX11_slhNode 57 (.iload 5) 2 59 := ⟨by decide +kernel, rfl⟩
theorem eX11_slhNode_59 : vD cX11_slhNode 59 (.iconst 1) 1 60 := ⟨by decide +kernel, rfl⟩
theorem eX11_slhNode_60 : vD cX11_slhNode 60 (.aload 6) 2 62 := ⟨by decide +kernel, rfl⟩
theorem eX11_slhNode_62 : vD cX11_slhNode 62 (.getfield 127) 3 65 := ⟨by decide +kernel, rfl⟩
theorem eX11_slhNode_65 : vD cX11_slhNode 65 (.iload 4) 2 67 := ⟨by decide +kernel, rfl⟩
theorem eX11_slhNode_67 : vD cX11_slhNode 67 .isub 1 68 := ⟨by decide +kernel, rfl⟩
theorem eX11_slhNode_68 : vD cX11_slhNode 68 .ishl 1 69 := ⟨by decide +kernel, rfl⟩
theorem eX11_slhNode_69 : vD cX11_slhNode 69 (.if_icmp .lt 13) 3 72 := ⟨by decide +kernel, rfl⟩
theorem eX11_slhNode_72 : vD cX11_slhNode 72 (.new 82) 3 75 := ⟨by decide +kernel, rfl⟩
theorem eX11_slhNode_75 : vD cX11_slhNode 75 .dup 1 76 := ⟨by decide +kernel, rfl⟩
theorem eX11_slhNode_76 : vD cX11_slhNode 76 (.ldc 190) 2 78 := ⟨by decide +kernel, rfl⟩
theorem eX11_slhNode_78 : vD cX11_slhNode 78 (.invokespecial 86) 3 81 := ⟨by decide +kernel, rfl⟩
theorem eX11_slhNode_81 : vD cX11_slhNode 81 .athrow 1 82 := ⟨by decide +kernel, rfl⟩
theorem eX11_slhNode_82 : vD cX11_slhNode 82 (.aload_n 0) 1 83 := ⟨by decide +kernel, rfl⟩
theorem eX11_slhNode_83 : vD cX11_slhNode 83 (.aload 6) 2 85 := ⟨by decide +kernel, rfl⟩
theorem eX11_slhNode_85 : vD cX11_slhNode 85 (.invokevirtual 148) 3 88 := ⟨by decide +kernel, rfl⟩
theorem eX11_slhNode_88 : vD cX11_slhNode 88 (.aload_n 0) 1 89 := ⟨by decide +kernel, rfl⟩
theorem eX11_slhNode_89 : vD cX11_slhNode 89 (.iload_n 1) 1 90 := ⟨by decide +kernel, rfl⟩
theorem eX11_slhNode_90 : vD cX11_slhNode 90 (.invokevirtual 112) 3 93 := ⟨by decide +kernel, rfl⟩
/-! the class's public methods on a fresh object, against what the reference does -/
def S0 : sT := fun _ => []
theorem S0_nil (k : Nat) : S0 k = [] := rfl
theorem z_end1 {q n : Int32} (h : ¬ ((0 ≤ q ∧ q ≤ 7) ∧ 0 ≤ n ∧ n ≤ 65536)) : (sp_end S0 [] q n).1 = 1 := by unfold sp_end; rw [if_neg h]
theorem ixN_pos {n : Int32} (h : 0 < n) : 0 < ixN n := by
  rw [Int32.lt_iff_toInt_lt, Int32.toInt_zero] at h
  unfold ixN
  rw [Int32.toNatClampNeg]
  omega
theorem z_end2 {q n : Int32} (h : (0 ≤ q ∧ q ≤ 7) ∧ 0 ≤ n ∧ n ≤ 65536) (h2 : ¬ n ≤ 0) : (sp_end S0 [] q n).1 = 2 := by
  unfold sp_end
  rw [if_pos h, if_neg]
  show ¬ ixN n ≤ 0
  have := ixN_pos (Int32.not_le.mp h2)
  omega
theorem z_end0 {q : Int32} (h : 0 ≤ q ∧ q ≤ 7) : (sp_end S0 [] q 0).1 = 0 ∧ (sp_end S0 [] q 0).2.1 = 0 := by
  unfold sp_end
  rw [if_pos ⟨h, by decide, by decide⟩, if_pos (by decide)]
  exact ⟨rfl, rfl⟩
theorem z_copy1 {q n : Int32} (h : ¬ ((0 ≤ q ∧ q ≤ 7) ∧ 0 ≤ n ∧ n ≤ 7)) : (sp_copy S0 [] q n).1 = 1 := by unfold sp_copy; rw [if_neg h]
theorem z_copy0 {q n : Int32} (h : (0 ≤ q ∧ q ≤ 7) ∧ 0 ≤ n ∧ n ≤ 7) : (sp_copy S0 [] q n).1 = 0 ∧ (sp_copy S0 [] q n).2.1 = 0 := by
  unfold sp_copy
  rw [if_pos h]
  exact ⟨rfl, rfl⟩
theorem z_resize1 {q n : Int32} (h : ¬ ((0 ≤ q ∧ q ≤ 7) ∧ 0 ≤ n ∧ n ≤ 65536)) : (sp_resize S0 [] q n).1 = 1 := by unfold sp_resize; rw [if_neg h]
theorem z_resize0 {q n : Int32} (h : (0 ≤ q ∧ q ≤ 7) ∧ 0 ≤ n ∧ n ≤ 65536) : (sp_resize S0 [] q n).1 = 0 ∧ (sp_resize S0 [] q n).2.1 = 0 := by
  unfold sp_resize
  rw [if_pos h]
  exact ⟨rfl, rfl⟩
theorem z_none {i : Int32} {k : Nat} : ¬ (0 ≤ i ∧ i ≤ nI (S0 k).length - 1) := fun h => by
  have h1 := h.1
  have h2 : i ≤ -1 := h.2
  rw [Int32.le_iff_toInt_le] at h1 h2
  rw [Int32.toInt_zero] at h1
  rw [show (-1 : Int32).toInt = -1 from by decide] at h2
  omega
theorem z_alter1 {q i v : Int32} (h : ¬ ((0 ≤ q ∧ q ≤ 7) ∧ 0 ≤ v ∧ v ≤ 255)) : (sp_alter S0 [] q i v).1 = 1 := by unfold sp_alter; rw [if_neg h]
theorem z_alter2 {q i v : Int32} (h : (0 ≤ q ∧ q ≤ 7) ∧ 0 ≤ v ∧ v ≤ 255) : (sp_alter S0 [] q i v).1 = 2 := by
  unfold sp_alter
  rw [if_pos h, if_neg z_none]
theorem z_length1 {q : Int32} (h : ¬ (0 ≤ q ∧ q ≤ 7)) : (sp_length S0 [] q).1 = 1 := by unfold sp_length; rw [if_neg h]
theorem z_length0 {q : Int32} (h : 0 ≤ q ∧ q ≤ 7) : (sp_length S0 [] q).1 = 0 ∧ (sp_length S0 [] q).2.1 = 0 := by
  unfold sp_length
  rw [if_pos h]
  exact ⟨rfl, rfl⟩
theorem z_word1 {q i : Int32} (h : ¬ (0 ≤ q ∧ q ≤ 7)) : (sp_word S0 q i).1 = 1 := by unfold sp_word; rw [if_neg h]
theorem z_word2 {q i : Int32} (h : 0 ≤ q ∧ q ≤ 7) : (sp_word S0 q i).1 = 2 := by
  unfold sp_word
  rw [if_pos h, if_neg z_none]
theorem z_same1 {q n : Int32} (h : ¬ ((0 ≤ q ∧ q ≤ 7) ∧ 0 ≤ n ∧ n ≤ 7)) : (sp_same S0 [] q n).1 = 1 := by unfold sp_same; rw [if_neg h]
theorem z_same0 {q n : Int32} (h : (0 ≤ q ∧ q ≤ 7) ∧ 0 ≤ n ∧ n ≤ 7) : (sp_same S0 [] q n).1 = 0 ∧ (sp_same S0 [] q n).2.1 = 1 := by
  have e : S0 (ixN q) = S0 (ixN n) := (S0_nil _).trans (S0_nil _).symm
  unfold sp_same
  rw [if_pos h, if_pos e]
  exact ⟨rfl, rfl⟩
theorem pN_0 (p : Int32) (h : 0 ≤ p ∧ p ≤ 11) : 16 ≤ pN (ixN p) := by
  have h1 := (ixN_of (M := 11) (n := 11) (by decide) h).1
  have := (set_ok (ixN p) (by omega)).1
  omega
theorem z_keys1 {θ : tT} {p : Int32} (h : ¬ (0 ≤ p ∧ p ≤ 11)) : (sp_keys θ S0 [] p).1 = 1 := by unfold sp_keys; rw [if_neg h]
theorem z_keys2 {θ : tT} {p : Int32} (h : 0 ≤ p ∧ p ≤ 11) : (sp_keys θ S0 [] p).1 = 2 := by
  unfold sp_keys
  rw [if_pos h, if_neg]
  have := pN_0 p h
  show ¬ 0 = 3 * pN (ixN p)
  omega
theorem how_iff {h : Int32} : (h = 0 ∨ h = -1) ↔ (-1 ≤ h ∧ h ≤ 0) := by
  constructor
  · rintro (rfl | rfl) <;> decide
  · intro q
    have h1 := q.1
    have h2 := q.2
    rw [Int32.le_iff_toInt_le] at h1 h2
    rw [Int32.toInt_zero] at h2
    rw [show (-1 : Int32).toInt = -1 from by decide] at h1
    rcases (by omega : h.toInt = 0 ∨ h.toInt = -1) with g | g
    · exact Or.inl (Int32.toInt_inj.mp (g.trans (by decide)))
    · exact Or.inr (Int32.toInt_inj.mp (g.trans (by decide)))
theorem z_sign1 {θ : tT} {p h : Int32} (g : ¬ ((0 ≤ p ∧ p ≤ 11) ∧ (h = 0 ∨ h = -1))) : (sp_sign θ S0 [] p h).1 = 1 := by unfold sp_sign; rw [if_neg (fun q => g ⟨q.1, how_iff.mpr q.2⟩)]
theorem z_sign3 {θ : tT} {p h : Int32} (g : (0 ≤ p ∧ p ≤ 11) ∧ (h = 0 ∨ h = -1)) : (sp_sign θ S0 [] p h).1 = 3 := by
  unfold sp_sign
  rw [if_pos ⟨g.1, how_iff.mp g.2⟩, if_pos ⟨Or.inr (by decide), Or.inr rfl⟩, if_neg]
  have := pN_0 p g.1
  show ¬ 0 = 4 * pN (ixN p)
  omega
theorem z_verify1 {θ : tT} {p h : Int32} (g : ¬ ((0 ≤ p ∧ p ≤ 11) ∧ (h = 0 ∨ h = -1))) : (sp_verify θ S0 [] p h).1 = 1 := by unfold sp_verify; rw [if_neg (fun q => g ⟨q.1, how_iff.mpr q.2⟩)]
theorem z_verify3 {θ : tT} {p h : Int32} (g : (0 ≤ p ∧ p ≤ 11) ∧ (h = 0 ∨ h = -1)) : (sp_verify θ S0 [] p h).1 = 3 := by
  unfold sp_verify
  rw [if_pos ⟨g.1, how_iff.mp g.2⟩, if_pos (Or.inr (by decide)), if_neg]
  have := pN_0 p g.1
  show ¬ 0 = 2 * pN (ixN p)
  omega
/-- slhNode's numbers, as the class has them -/
def nodeOk (j : Nat) (ly tr z i : Int32) : Prop := (0 ≤ ly ∧ ly < ([7, 22, 7, 22, 8, 17] : List Int32).getD j 0) ∧ 0 ≤ tr ∧ (0 ≤ z ∧ z ≤ ([9, 3, 9, 3, 8, 4] : List Int32).getD j 0) ∧ 0 ≤ i ∧ i < 1 <<< ((([9, 3, 9, 3, 8, 4] : List Int32).getD j 0 - z) &&& 31)
theorem node_d : ∀ s, s < 12 → (nI (pD s) - 1).toInt + 1 = (([7, 22, 7, 22, 8, 17] : List Int32).getD (s % 6) 0).toInt := by decide
theorem node_p : ∀ s, s < 12 → nI (pP s) = ([9, 3, 9, 3, 8, 4] : List Int32).getD (s % 6) 0 := by decide
theorem node_i : ∀ s, s < 12 → ∀ z, z < 10 → z ≤ pP s → (nI (2 ^ (pP s - z)) - 1).toInt + 1 = ((1 : Int32) <<< ((([9, 3, 9, 3, 8, 4] : List Int32).getD (s % 6) 0 - nI z) &&& 31)).toInt := by decide +kernel
theorem node_iff {p ly tr z i : Int32} (h : 0 ≤ p ∧ p ≤ 11) : ((0 ≤ ly ∧ ly ≤ nI (pD (ixN p)) - 1) ∧ 0 ≤ tr ∧ (0 ≤ z ∧ z ≤ nI (pP (ixN p))) ∧ 0 ≤ i ∧ i ≤ nI (2 ^ (pP (ixN p) - ixN z)) - 1) ↔ nodeOk (ixN p % 6) ly tr z i := by
  have h1 := (ixN_of (M := 11) (n := 11) (by decide) h).1
  have hs : ixN p < 12 := by omega
  have hp := (set_ok (ixN p) hs).2.1
  unfold nodeOk
  rw [i_lt_le (node_d _ hs), ← node_p _ hs]
  have key : ∀ q : 0 ≤ z ∧ z ≤ nI (pP (ixN p)), (i < 1 <<< ((nI (pP (ixN p)) - z) &&& 31) ↔ i ≤ nI (2 ^ (pP (ixN p) - ixN z)) - 1) := fun q => by
    have hz := ixN_of (M := nI (pP (ixN p))) (n := pP (ixN p)) (nI_toInt (by omega)) q
    have e := node_i (ixN p) hs (ixN z) (by omega) hz.1
    rw [← node_p _ hs, ← hz.2] at e
    exact i_lt_le e
  constructor
  · rintro ⟨a, b, c, d, e⟩
    exact ⟨a, b, c, d, (key c).mpr e⟩
  · rintro ⟨a, b, c, d, e⟩
    exact ⟨a, b, c, d, (key c).mp e⟩
theorem z_node1 {θ : tT} {p ly tr z i : Int32} (g : ¬ ((0 ≤ p ∧ p ≤ 11) ∧ nodeOk (ixN p % 6) ly tr z i)) : (sp_node θ S0 [] p ly tr z i).1 = 1 := by
  unfold sp_node
  by_cases h : 0 ≤ p ∧ p ≤ 11
  · rw [if_pos h, if_neg (fun q => g ⟨h, (node_iff h).mp q⟩)]
  · rw [if_neg h]
theorem z_node2 {θ : tT} {p ly tr z i : Int32} (h : 0 ≤ p ∧ p ≤ 11) (g : nodeOk (ixN p % 6) ly tr z i) : (sp_node θ S0 [] p ly tr z i).1 = 2 := by
  unfold sp_node
  rw [if_pos h, if_pos ((node_iff h).mpr g), if_neg]
  have := pN_0 p h
  show ¬ 0 = 4 * pN (ixN p)
  omega
section PM
variable {G : vG} {B : Nat} {l : Launch} {ad : Nat → Nat} {N : Nat} {x4 x6 x7 : Nat} {σ : nS} {θ : tT}
set_option maxRecDepth 100000 in
set_option maxHeartbeats 4000000 in
theorem p_length (hl : l.stackTraces = false) (I : nI1 ad N) (hN : ∀ k, k < 86 → k < N) (F : CF G ad x4 x6 x7 σ) (q : Int32) : xOk G B l yX11_length cX11_length 2 (some .int) 7 1 6 [.ref (ad 74), .int q] (nW ad N σ) (fun r w' => ∃ σ', w' = nW ad N σ' ∧ cK σ σ' ∧ (sp_length S0 [] q).1 = 0 ∧ r = some (.int (sp_length S0 [] q).2.1)) (nW ad N σ) (fun E => (E = eIAE ∧ (sp_length S0 [] q).1 = 1)) := by
  refine xOk.of (by decide +kernel) (Nat.le_of_ble_eq_true rfl) ?_
  intro p e s m args below meth c C hnt
  refine v_eq (lv' := [(0, .ref (ad 74)), (1, .int q)]) rfl rfl rfl ?_
  refine v_iload_n C eX11_length_0 rfl 1 rfl ?_
  refine x_callS (av := [.int q]) (rest := []) C hnoX11 hnt mX11_64 (f_checkSlot hl q) rfl (by decide) (by decide) ⟨Nat.le_of_ble_eq_true rfl, Nat.le_of_ble_eq_true rfl⟩ rfl rfl (Nat.le_of_ble_eq_true rfl) eX11_length_1 (fun E h => ⟨h.1, z_length1 h.2⟩) (fun _ _ h => h) ⟨Nat.le_of_ble_eq_true rfl, Nat.le_of_ble_eq_true rfl⟩ (fun r w' hp => ?_)
  obtain ⟨rfl, rfl, h1⟩ := hp
  have hq := (ixN_of (M := 7) (n := 7) (by decide) h1)
  refine v_aload_n C eX11_length_4 rfl 0 rfl ?_
  refine n_get C I fX11_15_X11 eX11_length_5 (hN 74 (by decide)) F.1 rfl ?_
  refine v_iload_n C eX11_length_8 rfl 1 rfl ?_
  refine n_iald C I eX11_length_9 (hN 84 (by decide)) F.2.2.2.1 (ixN q) hq.2 (by omega) (by decide) ?_
  refine x_ret ?_
  refine v_wide (k := 1) (n := 6) (Nat.le_of_ble_eq_true rfl) (Nat.le_of_ble_eq_true rfl) ?_
  exact v_iret C rfl eX11_length_10 ⟨σ, rfl, fun _ _ => rfl, (z_length0 h1).1, by rw [(z_length0 h1).2]⟩

set_option maxRecDepth 100000 in
set_option maxHeartbeats 4000000 in
theorem p_word (hl : l.stackTraces = false) (I : nI1 ad N) (hN : ∀ k, k < 86 → k < N) (F : CF G ad x4 x6 x7 σ) (q i : Int32) : xOk G B l yX11_word cX11_word 6 (some .long) 7 2 12 [.ref (ad 74), .int q, .int i] (nW ad N σ) (fun r w' => ∃ σ', w' = nW ad N σ' ∧ cK σ σ' ∧ (sp_word S0 q i).1 = 0 ∧ r = some (.long (sp_word S0 q i).2)) (nW ad N σ) (fun E => (E = eIAE ∧ (sp_word S0 q i).1 = 1) ∨ (E = eIOB ∧ (sp_word S0 q i).1 = 2)) := by
  refine xOk.of (by decide +kernel) (Nat.le_of_ble_eq_true rfl) ?_
  intro p e s m args below meth c C hnt
  refine v_eq (lv' := [(0, .ref (ad 74)), (1, .int q), (2, .int i)]) rfl rfl rfl ?_
  refine v_iload_n C eX11_word_0 rfl 1 rfl ?_
  refine x_callS (av := [.int q]) (rest := []) C hnoX11 hnt mX11_64 (f_checkSlot hl q) rfl (by decide) (by decide) ⟨Nat.le_of_ble_eq_true rfl, Nat.le_of_ble_eq_true rfl⟩ rfl rfl (Nat.le_of_ble_eq_true rfl) eX11_word_1 (fun E h => Or.inl ⟨h.1, z_word1 h.2⟩) (fun _ _ h => h) ⟨Nat.le_of_ble_eq_true rfl, Nat.le_of_ble_eq_true rfl⟩ (fun r w' hp => ?_)
  obtain ⟨rfl, rfl, h1⟩ := hp
  have hq := (ixN_of (M := 7) (n := 7) (by decide) h1)
  refine v_aload_n C eX11_word_4 rfl 0 rfl ?_
  refine v_iload_n C eX11_word_5 rfl 1 rfl ?_
  refine v_iload_n C eX11_word_6 rfl 2 rfl ?_
  refine x_callV (As := [.int q, .int i]) (rest := []) C hnoX11 hnt mX11_87 (f_checkPlace hl I hN F q i hq) ((nW_at I (hN 74 (by decide))).trans (congrArg some F.1)) rfl (by decide) (by decide) ⟨Nat.le_of_ble_eq_true rfl, Nat.le_of_ble_eq_true rfl⟩ rfl rfl (Nat.le_of_ble_eq_true rfl) eX11_word_7 (fun E h => Or.inr ⟨h, z_word2 h1⟩) (fun _ _ h => h) ⟨Nat.le_of_ble_eq_true rfl, Nat.le_of_ble_eq_true rfl⟩ (fun r w' hp => ?_)
  exact absurd hp not_false

set_option maxRecDepth 100000 in
set_option maxHeartbeats 4000000 in
theorem p_alter (hl : l.stackTraces = false) (I : nI1 ad N) (hN : ∀ k, k < 86 → k < N) (F : CF G ad x4 x6 x7 σ) (q i v : Int32) : xOk G B l yX11_alter cX11_alter 4 (some .int) 7 2 12 [.ref (ad 74), .int q, .int i, .int v] (nW ad N σ) (fun r w' => ∃ σ', w' = nW ad N σ' ∧ cK σ σ' ∧ (sp_alter S0 [] q i v).1 = 0 ∧ r = some (.int (sp_alter S0 [] q i v).2.1)) (nW ad N σ) (fun E => (E = eIAE ∧ (sp_alter S0 [] q i v).1 = 1) ∨ (E = eIOB ∧ (sp_alter S0 [] q i v).1 = 2)) := by
  refine xOk.of (by decide +kernel) (Nat.le_of_ble_eq_true rfl) ?_
  intro p e s m args below meth c C hnt
  refine v_eq (lv' := [(0, .ref (ad 74)), (1, .int q), (2, .int i), (3, .int v)]) rfl rfl rfl ?_
  refine v_iload_n C eX11_alter_0 rfl 1 rfl ?_
  refine x_callS (av := [.int q]) (rest := []) C hnoX11 hnt mX11_64 (f_checkSlot hl q) rfl (by decide) (by decide) ⟨Nat.le_of_ble_eq_true rfl, Nat.le_of_ble_eq_true rfl⟩ rfl rfl (Nat.le_of_ble_eq_true rfl) eX11_alter_1 (fun E h => Or.inl ⟨h.1, z_alter1 (fun g => h.2 g.1)⟩) (fun _ _ h => h) ⟨Nat.le_of_ble_eq_true rfl, Nat.le_of_ble_eq_true rfl⟩ (fun r w' hp => ?_)
  obtain ⟨rfl, rfl, h1⟩ := hp
  have hq := (ixN_of (M := 7) (n := 7) (by decide) h1)
  refine v_iload_n C eX11_alter_4 rfl 3 rfl ?_
  refine v_if_lt (tgt := 15) C eX11_alter_5 (by decide) (fun c1 => ?_) (fun c1 => ?_)
  · exact x_throw hl C hnt (text := "v is no byte") xIAE (by decide) rfl (by decide) eX11_alter_15 eX11_alter_18 eX11_alter_19 eX11_alter_21 eX11_alter_24 (Or.inl ⟨rfl, z_alter1 (fun g => absurd (Int32.not_lt.mpr g.2.1) (not_not_intro c1))⟩) (by decide) ⟨Nat.le_of_ble_eq_true rfl, Nat.le_of_ble_eq_true rfl⟩ ⟨Nat.le_of_ble_eq_true rfl, Nat.le_of_ble_eq_true rfl⟩ (fun _ _ h => h)
  · refine v_iload_n C eX11_alter_8 rfl 3 rfl ?_
    refine v_sipush (v := (255 : Int32)) C eX11_alter_9 (by decide) ?_
    refine v_icmp_le (tgt := 25) C eX11_alter_12 (by decide) (fun c2 => ?_) (fun c2 => ?_)
    · refine v_aload_n C eX11_alter_25 rfl 0 rfl ?_
      refine v_iload_n C eX11_alter_26 rfl 1 rfl ?_
      refine v_iload_n C eX11_alter_27 rfl 2 rfl ?_
      refine x_callV (As := [.int q, .int i]) (rest := []) C hnoX11 hnt mX11_87 (f_checkPlace hl I hN F q i hq) ((nW_at I (hN 74 (by decide))).trans (congrArg some F.1)) rfl (by decide) (by decide) ⟨Nat.le_of_ble_eq_true rfl, Nat.le_of_ble_eq_true rfl⟩ rfl rfl (Nat.le_of_ble_eq_true rfl) eX11_alter_28 (fun E h => Or.inr ⟨h, z_alter2 ⟨h1, Int32.not_lt.mp c1, c2⟩⟩) (fun _ _ h => h) ⟨Nat.le_of_ble_eq_true rfl, Nat.le_of_ble_eq_true rfl⟩ (fun r w' hp => ?_)
      exact absurd hp not_false
    · exact x_throw hl C hnt (text := "v is no byte") xIAE (by decide) rfl (by decide) eX11_alter_15 eX11_alter_18 eX11_alter_19 eX11_alter_21 eX11_alter_24 (Or.inl ⟨rfl, z_alter1 (fun g => c2 g.2.2)⟩) (by decide) ⟨Nat.le_of_ble_eq_true rfl, Nat.le_of_ble_eq_true rfl⟩ ⟨Nat.le_of_ble_eq_true rfl, Nat.le_of_ble_eq_true rfl⟩ (fun _ _ h => h)

set_option maxRecDepth 100000 in
set_option maxHeartbeats 4000000 in
theorem p_end (hl : l.stackTraces = false) (I : nI1 ad N) (hN : ∀ k, k < 86 → k < N) (F : CF G ad x4 x6 x7 σ) (q n : Int32) : xOk G B l yX11_end cX11_end 3 (some .int) 7 3 18 [.ref (ad 74), .int q, .int n] (nW ad N σ) (fun r w' => ∃ σ', w' = nW ad N σ' ∧ cK σ σ' ∧ (sp_end S0 [] q n).1 = 0 ∧ r = some (.int (sp_end S0 [] q n).2.1)) (nW ad N σ) (fun E => (E = eIAE ∧ (sp_end S0 [] q n).1 = 1) ∨ (E = eIOB ∧ (sp_end S0 [] q n).1 = 2)) := by
  refine xOk.of (by decide +kernel) (Nat.le_of_ble_eq_true rfl) ?_
  intro p e s m args below meth c C hnt
  refine v_eq (lv' := [(0, .ref (ad 74)), (1, .int q), (2, .int n)]) rfl rfl rfl ?_
  refine v_iload_n C eX11_end_0 rfl 1 rfl ?_
  refine x_callS (av := [.int q]) (rest := []) C hnoX11 hnt mX11_64 (f_checkSlot hl q) rfl (by decide) (by decide) ⟨Nat.le_of_ble_eq_true rfl, Nat.le_of_ble_eq_true rfl⟩ rfl rfl (Nat.le_of_ble_eq_true rfl) eX11_end_1 (fun E h => Or.inl ⟨h.1, z_end1 (fun g => h.2 g.1)⟩) (fun _ _ h => h) ⟨Nat.le_of_ble_eq_true rfl, Nat.le_of_ble_eq_true rfl⟩ (fun r w' hp => ?_)
  obtain ⟨rfl, rfl, h1⟩ := hp
  refine v_iload_n C eX11_end_4 rfl 2 rfl ?_
  refine x_callS (av := [.int n]) (rest := []) C hnoX11 hnt mX11_67 (f_checkCount hl n) rfl (by decide) (by decide) ⟨Nat.le_of_ble_eq_true rfl, Nat.le_of_ble_eq_true rfl⟩ rfl rfl (Nat.le_of_ble_eq_true rfl) eX11_end_5 (fun E h => Or.inl ⟨h.1, z_end1 (fun g => h.2 g.2)⟩) (fun _ _ h => h) ⟨Nat.le_of_ble_eq_true rfl, Nat.le_of_ble_eq_true rfl⟩ (fun r w' hp => ?_)
  obtain ⟨rfl, rfl, h2⟩ := hp
  have hq := (ixN_of (M := 7) (n := 7) (by decide) h1)
  refine v_iload_n C eX11_end_8 rfl 2 rfl ?_
  refine v_aload_n C eX11_end_9 rfl 0 rfl ?_
  refine n_get C I fX11_23_X11 eX11_end_10 (hN 74 (by decide)) F.1 rfl ?_
  refine v_icmp_le (tgt := 26) C eX11_end_13 (by decide) (fun c1 => ?_) (fun c1 => ?_)
  · have hz : n = 0 := Int32.le_antisymm c1 h2.1
    subst hz
    refine v_aload_n C eX11_end_26 rfl 0 rfl ?_
    refine v_iload_n C eX11_end_27 rfl 1 rfl ?_
    refine v_aload_n C eX11_end_28 rfl 0 rfl ?_
    refine n_get C I fX11_19_X11 eX11_end_29 (hN 74 (by decide)) F.1 rfl ?_
    refine v_iload_n C eX11_end_32 rfl 2 rfl ?_
    refine n_callV (As := [.int q, .ref (ad 85), .int (0 : Int32)]) (rest := []) C I mX11_72 (f_setSlot I hN F q hq (hN 85 (by decide)) F.2.2.2.2) (hN 74 (by decide)) F.1 rfl (by decide) (by decide) ⟨Nat.le_of_ble_eq_true rfl, Nat.le_of_ble_eq_true rfl⟩ rfl rfl (Nat.le_of_ble_eq_true rfl) eX11_end_33 (fun r σ' hp => ?_)
    obtain ⟨rfl, g1, g2, g3⟩ := hp
    refine v_aload_n C eX11_end_36 rfl 0 rfl ?_
    refine v_iconst (v := (0 : Int32)) C eX11_end_37 (by decide) ?_
    refine n_put (fs' := [.ref (ad 75), .ref (ad 84), .ref (ad 85), .int ((0 : Int32)), .ref x4, .int ((0 : Int32)), .ref x6, .ref x7]) C I fX11_23_X11p eX11_end_38 (hN 74 (by decide)) (g1.trans F.1) rfl rfl (Nat.le_of_ble_eq_true rfl) rfl ?_
    refine v_iload_n C eX11_end_41 rfl 2 rfl ?_
    refine x_ret ?_
    refine v_wide (k := 3) (n := 18) (Nat.le_of_ble_eq_true rfl) (Nat.le_of_ble_eq_true rfl) ?_
    exact v_iret C rfl eX11_end_42 ⟨_, rfl, fun k hk => (n_ne (by omega)).trans (g3 k hk), (z_end0 h1).1, by rw [(z_end0 h1).2]⟩
  · exact x_throw hl C hnt (text := "the tape has fewer bytes") xIOB (by decide) rfl (by decide) eX11_end_16 eX11_end_19 eX11_end_20 eX11_end_22 eX11_end_25 (Or.inr ⟨rfl, z_end2 ⟨h1, h2⟩ c1⟩) (by decide) ⟨Nat.le_of_ble_eq_true rfl, Nat.le_of_ble_eq_true rfl⟩ ⟨Nat.le_of_ble_eq_true rfl, Nat.le_of_ble_eq_true rfl⟩ (fun _ _ h => h)

set_option maxRecDepth 100000 in
set_option maxHeartbeats 4000000 in
theorem p_copy (hl : l.stackTraces = false) (I : nI1 ad N) (hN : ∀ k, k < 86 → k < N) (F : CF G ad x4 x6 x7 σ) (q n : Int32) : xOk G B l yX11_copy cX11_copy 3 (some .int) 7 2 12 [.ref (ad 74), .int q, .int n] (nW ad N σ) (fun r w' => ∃ σ', w' = nW ad N σ' ∧ cK σ σ' ∧ (sp_copy S0 [] q n).1 = 0 ∧ r = some (.int (sp_copy S0 [] q n).2.1)) (nW ad N σ) (fun E => (E = eIAE ∧ (sp_copy S0 [] q n).1 = 1)) := by
  refine xOk.of (by decide +kernel) (Nat.le_of_ble_eq_true rfl) ?_
  intro p e s m args below meth c C hnt
  refine v_eq (lv' := [(0, .ref (ad 74)), (1, .int q), (2, .int n)]) rfl rfl rfl ?_
  refine v_iload_n C eX11_copy_0 rfl 1 rfl ?_
  refine x_callS (av := [.int q]) (rest := []) C hnoX11 hnt mX11_64 (f_checkSlot hl q) rfl (by decide) (by decide) ⟨Nat.le_of_ble_eq_true rfl, Nat.le_of_ble_eq_true rfl⟩ rfl rfl (Nat.le_of_ble_eq_true rfl) eX11_copy_1 (fun E h => ⟨h.1, z_copy1 (fun g => h.2 g.1)⟩) (fun _ _ h => h) ⟨Nat.le_of_ble_eq_true rfl, Nat.le_of_ble_eq_true rfl⟩ (fun r w' hp => ?_)
  obtain ⟨rfl, rfl, h1⟩ := hp
  refine v_iload_n C eX11_copy_4 rfl 2 rfl ?_
  refine x_callS (av := [.int n]) (rest := []) C hnoX11 hnt mX11_64 (f_checkSlot hl n) rfl (by decide) (by decide) ⟨Nat.le_of_ble_eq_true rfl, Nat.le_of_ble_eq_true rfl⟩ rfl rfl (Nat.le_of_ble_eq_true rfl) eX11_copy_5 (fun E h => ⟨h.1, z_copy1 (fun g => h.2 g.2)⟩) (fun _ _ h => h) ⟨Nat.le_of_ble_eq_true rfl, Nat.le_of_ble_eq_true rfl⟩ (fun r w' hp => ?_)
  obtain ⟨rfl, rfl, h2⟩ := hp
  have hq := (ixN_of (M := 7) (n := 7) (by decide) h1)
  have hn := (ixN_of (M := 7) (n := 7) (by decide) h2)
  refine v_aload_n C eX11_copy_8 rfl 0 rfl ?_
  refine v_iload_n C eX11_copy_9 rfl 2 rfl ?_
  refine v_aload_n C eX11_copy_10 rfl 0 rfl ?_
  refine n_get C I fX11_12_X11 eX11_copy_11 (hN 74 (by decide)) F.1 rfl ?_
  refine v_iload_n C eX11_copy_14 rfl 1 rfl ?_
  refine n_aald (b := ad (76 + ixN q)) C I eX11_copy_15 (hN 75 (by decide)) F.2.1 (ixN q) hq.2 (by omega) (by decide) (eRf_at (by omega)) ?_
  refine v_aload_n C eX11_copy_16 rfl 0 rfl ?_
  refine n_get C I fX11_15_X11 eX11_copy_17 (hN 74 (by decide)) F.1 rfl ?_
  refine v_iload_n C eX11_copy_20 rfl 1 rfl ?_
  refine n_iald C I eX11_copy_21 (hN 84 (by decide)) F.2.2.2.1 (ixN q) hq.2 (by omega) (by decide) ?_
  refine n_callV (As := [.int n, .ref (ad (76 + ixN q)), .int (0 : Int32)]) (rest := []) C I mX11_72 (f_setSlot I hN F n hn (hN (76 + ixN q) (by omega)) (F.ref (by omega))) (hN 74 (by decide)) F.1 rfl (by decide) (by decide) ⟨Nat.le_of_ble_eq_true rfl, Nat.le_of_ble_eq_true rfl⟩ rfl rfl (Nat.le_of_ble_eq_true rfl) eX11_copy_22 (fun r σ' hp => ?_)
  obtain ⟨rfl, g1, g2, g3⟩ := hp
  refine v_aload_n C eX11_copy_25 rfl 0 rfl ?_
  refine n_get C I fX11_15_X11 eX11_copy_26 (hN 74 (by decide)) (g1.trans F.1) rfl ?_
  refine v_iload_n C eX11_copy_29 rfl 2 rfl ?_
  refine n_iald C I eX11_copy_30 (hN 84 (by decide)) g2 (ixN n) hn.2 (by omega) (by decide) ?_
  refine x_ret ?_
  refine v_wide (k := 2) (n := 12) (Nat.le_of_ble_eq_true rfl) (Nat.le_of_ble_eq_true rfl) ?_
  exact v_iret C rfl eX11_copy_31 ⟨_, rfl, g3, (z_copy0 ⟨h1, h2⟩).1, by rw [(z_copy0 ⟨h1, h2⟩).2]⟩

set_option maxRecDepth 100000 in
set_option maxHeartbeats 4000000 in
theorem p_resize (hl : l.stackTraces = false) (I : nI1 ad N) (hN : ∀ k, k < 86 → k < N) (F : CF G ad x4 x6 x7 σ) (q n : Int32) : xOk G B l yX11_resize cX11_resize 4 (some .int) 7 2 12 [.ref (ad 74), .int q, .int n] (nW ad N σ) (fun r w' => ∃ σ', w' = nW ad N σ' ∧ cK σ σ' ∧ (sp_resize S0 [] q n).1 = 0 ∧ r = some (.int (sp_resize S0 [] q n).2.1)) (nW ad N σ) (fun E => (E = eIAE ∧ (sp_resize S0 [] q n).1 = 1)) := by
  refine xOk.of (by decide +kernel) (Nat.le_of_ble_eq_true rfl) ?_
  intro p e s m args below meth c C hnt
  refine v_eq (lv' := [(0, .ref (ad 74)), (1, .int q), (2, .int n)]) rfl rfl rfl ?_
  refine v_iload_n C eX11_resize_0 rfl 1 rfl ?_
  refine x_callS (av := [.int q]) (rest := []) C hnoX11 hnt mX11_64 (f_checkSlot hl q) rfl (by decide) (by decide) ⟨Nat.le_of_ble_eq_true rfl, Nat.le_of_ble_eq_true rfl⟩ rfl rfl (Nat.le_of_ble_eq_true rfl) eX11_resize_1 (fun E h => ⟨h.1, z_resize1 (fun g => h.2 g.1)⟩) (fun _ _ h => h) ⟨Nat.le_of_ble_eq_true rfl, Nat.le_of_ble_eq_true rfl⟩ (fun r w' hp => ?_)
  obtain ⟨rfl, rfl, h1⟩ := hp
  refine v_iload_n C eX11_resize_4 rfl 2 rfl ?_
  refine x_callS (av := [.int n]) (rest := []) C hnoX11 hnt mX11_67 (f_checkCount hl n) rfl (by decide) (by decide) ⟨Nat.le_of_ble_eq_true rfl, Nat.le_of_ble_eq_true rfl⟩ rfl rfl (Nat.le_of_ble_eq_true rfl) eX11_resize_5 (fun E h => ⟨h.1, z_resize1 (fun g => h.2 g.2)⟩) (fun _ _ h => h) ⟨Nat.le_of_ble_eq_true rfl, Nat.le_of_ble_eq_true rfl⟩ (fun r w' hp => ?_)
  obtain ⟨rfl, rfl, h2⟩ := hp
  have hq := (ixN_of (M := 7) (n := 7) (by decide) h1)
  have hn := ixN_of (M := 65536) (n := 65536) (by decide) h2
  refine v_aload_n C eX11_resize_8 rfl 0 rfl ?_
  refine n_get C I fX11_15_X11 eX11_resize_9 (hN 74 (by decide)) F.1 rfl ?_
  refine v_iload_n C eX11_resize_12 rfl 1 rfl ?_
  refine n_iald C I eX11_resize_13 (hN 84 (by decide)) F.2.2.2.1 (ixN q) hq.2 (by omega) (by decide) ?_
  refine v_istore_n (lv' := [(0, .ref (ad 74)), (1, .int q), (2, .int n), (3, .int (((fun _ => 0)) (ixN q)))]) C eX11_resize_14 rfl (by decide) [1, 2, 3, 0] rfl ?_
  refine v_iload_n C eX11_resize_15 rfl 2 rfl ?_
  refine v_iload_n C eX11_resize_16 rfl 3 rfl ?_
  refine v_icmp_le (tgt := 32) C eX11_resize_17 (by decide) (fun c1 => ?_) (fun c1 => ?_)
  · refine v_aload_n C eX11_resize_32 rfl 0 rfl ?_
    refine n_get C I fX11_15_X11 eX11_resize_33 (hN 74 (by decide)) F.1 rfl ?_
    refine v_iload_n C eX11_resize_36 rfl 1 rfl ?_
    refine v_iload_n C eX11_resize_37 rfl 2 rfl ?_
    refine n_iast C I eX11_resize_38 (hN 84 (by decide)) F.2.2.2.1 (ixN q) hq.2 (by omega) (by decide) ?_
    refine v_iload_n C eX11_resize_39 rfl 3 rfl ?_
    refine x_ret ?_
    refine v_wide (k := 2) (n := 12) (Nat.le_of_ble_eq_true rfl) (Nat.le_of_ble_eq_true rfl) ?_
    exact v_iret C rfl eX11_resize_40 ⟨_, rfl, fun k hk => n_ne (by omega), (z_resize0 ⟨h1, h2⟩).1, by rw [(z_resize0 ⟨h1, h2⟩).2]⟩
  · refine v_aload_n C eX11_resize_20 rfl 0 rfl ?_
    refine n_get C I fX11_12_X11 eX11_resize_21 (hN 74 (by decide)) F.1 rfl ?_
    refine v_iload_n C eX11_resize_24 rfl 1 rfl ?_
    refine n_aald (b := ad (76 + ixN q)) C I eX11_resize_25 (hN 75 (by decide)) F.2.1 (ixN q) hq.2 (by omega) (by decide) (eRf_at (by omega)) ?_
    refine v_iload_n C eX11_resize_26 rfl 3 rfl ?_
    refine v_iload_n C eX11_resize_27 rfl 2 rfl ?_
    refine v_iconst (v := (0 : Int32)) C eX11_resize_28 (by decide) ?_
    refine v_eq (nW_self I (hN (76 + ixN q) (by omega)) (F.ref (by omega))).symm rfl rfl ?_
    refine v_callS (av := [.ref (ad (76 + ixN q)), .int (0 : Int32), .int n, .int (0 : Int32)]) (rest := []) C mX11_76 (f_fill (ixN n) hn.2 hn.1) rfl (by decide) (by decide) ⟨Nat.le_of_ble_eq_true rfl, Nat.le_of_ble_eq_true rfl⟩ rfl rfl (Nat.le_of_ble_eq_true rfl) eX11_resize_29 (fun r w' hp => ?_)
    obtain ⟨rfl, f1, rfl⟩ := hp
    rw [nW_up I (hN (76 + ixN q) (by omega))]
    have g74 : va_up σ (76 + ixN q) (eB G 65536 f1) 74 = σ 74 := n_ne (by omega)
    have g84 : va_up σ (76 + ixN q) (eB G 65536 f1) 84 = σ 84 := n_ne (by omega)
    refine v_aload_n C eX11_resize_32 rfl 0 rfl ?_
    refine n_get C I fX11_15_X11 eX11_resize_33 (hN 74 (by decide)) (g74.trans F.1) rfl ?_
    refine v_iload_n C eX11_resize_36 rfl 1 rfl ?_
    refine v_iload_n C eX11_resize_37 rfl 2 rfl ?_
    refine n_iast C I eX11_resize_38 (hN 84 (by decide)) (g84.trans F.2.2.2.1) (ixN q) hq.2 (by omega) (by decide) ?_
    refine v_iload_n C eX11_resize_39 rfl 3 rfl ?_
    refine x_ret ?_
    refine v_wide (k := 2) (n := 12) (Nat.le_of_ble_eq_true rfl) (Nat.le_of_ble_eq_true rfl) ?_
    exact v_iret C rfl eX11_resize_40 ⟨_, rfl, fun k hk => (n_ne (by omega)).trans (n_ne (by omega)), (z_resize0 ⟨h1, h2⟩).1, by rw [(z_resize0 ⟨h1, h2⟩).2]⟩

set_option maxRecDepth 100000 in
set_option maxHeartbeats 4000000 in
theorem p_same (hl : l.stackTraces = false) (I : nI1 ad N) (hN : ∀ k, k < 86 → k < N) (F : CF G ad x4 x6 x7 σ) (q n : Int32) : xOk G B l yX11_same cX11_same 3 (some .boolean) 7 2 12 [.ref (ad 74), .int q, .int n] (nW ad N σ) (fun r w' => ∃ σ', w' = nW ad N σ' ∧ cK σ σ' ∧ (sp_same S0 [] q n).1 = 0 ∧ r = some (.int (sp_same S0 [] q n).2.1)) (nW ad N σ) (fun E => (E = eIAE ∧ (sp_same S0 [] q n).1 = 1)) := by
  refine xOk.of (by decide +kernel) (Nat.le_of_ble_eq_true rfl) ?_
  intro p e s m args below meth c C hnt
  refine v_eq (lv' := [(0, .ref (ad 74)), (1, .int q), (2, .int n)]) rfl rfl rfl ?_
  refine v_iload_n C eX11_same_0 rfl 1 rfl ?_
  refine x_callS (av := [.int q]) (rest := []) C hnoX11 hnt mX11_64 (f_checkSlot hl q) rfl (by decide) (by decide) ⟨Nat.le_of_ble_eq_true rfl, Nat.le_of_ble_eq_true rfl⟩ rfl rfl (Nat.le_of_ble_eq_true rfl) eX11_same_1 (fun E h => ⟨h.1, z_same1 (fun g => h.2 g.1)⟩) (fun _ _ h => h) ⟨Nat.le_of_ble_eq_true rfl, Nat.le_of_ble_eq_true rfl⟩ (fun r w' hp => ?_)
  obtain ⟨rfl, rfl, h1⟩ := hp
  refine v_iload_n C eX11_same_4 rfl 2 rfl ?_
  refine x_callS (av := [.int n]) (rest := []) C hnoX11 hnt mX11_64 (f_checkSlot hl n) rfl (by decide) (by decide) ⟨Nat.le_of_ble_eq_true rfl, Nat.le_of_ble_eq_true rfl⟩ rfl rfl (Nat.le_of_ble_eq_true rfl) eX11_same_5 (fun E h => ⟨h.1, z_same1 (fun g => h.2 g.2)⟩) (fun _ _ h => h) ⟨Nat.le_of_ble_eq_true rfl, Nat.le_of_ble_eq_true rfl⟩ (fun r w' hp => ?_)
  obtain ⟨rfl, rfl, h2⟩ := hp
  have hq := (ixN_of (M := 7) (n := 7) (by decide) h1)
  have hn := (ixN_of (M := 7) (n := 7) (by decide) h2)
  refine v_aload_n C eX11_same_8 rfl 0 rfl ?_
  refine n_get C I fX11_15_X11 eX11_same_9 (hN 74 (by decide)) F.1 rfl ?_
  refine v_iload_n C eX11_same_12 rfl 1 rfl ?_
  refine n_iald C I eX11_same_13 (hN 84 (by decide)) F.2.2.2.1 (ixN q) hq.2 (by omega) (by decide) ?_
  refine v_aload_n C eX11_same_14 rfl 0 rfl ?_
  refine n_get C I fX11_15_X11 eX11_same_15 (hN 74 (by decide)) F.1 rfl ?_
  refine v_iload_n C eX11_same_18 rfl 2 rfl ?_
  refine n_iald C I eX11_same_19 (hN 84 (by decide)) F.2.2.2.1 (ixN n) hn.2 (by omega) (by decide) ?_
  refine v_icmp_ne (tgt := 52) C eX11_same_20 (by decide) (fun h => absurd (rfl : (fun _ => (0 : Int32)) (ixN q) = (fun _ => (0 : Int32)) (ixN n)) h) (fun _ => ?_)
  refine v_aload_n C eX11_same_23 rfl 0 rfl ?_
  refine n_get C I fX11_12_X11 eX11_same_24 (hN 74 (by decide)) F.1 rfl ?_
  refine v_iload_n C eX11_same_27 rfl 1 rfl ?_
  refine n_aald (b := ad (76 + ixN q)) C I eX11_same_28 (hN 75 (by decide)) F.2.1 (ixN q) hq.2 (by omega) (by decide) (eRf_at (by omega)) ?_
  refine v_aload_n C eX11_same_29 rfl 0 rfl ?_
  refine n_get C I fX11_12_X11 eX11_same_30 (hN 74 (by decide)) F.1 rfl ?_
  refine v_iload_n C eX11_same_33 rfl 2 rfl ?_
  refine n_aald (b := ad (76 + ixN n)) C I eX11_same_34 (hN 75 (by decide)) F.2.1 (ixN n) hn.2 (by omega) (by decide) (eRf_at (by omega)) ?_
  refine v_iconst (v := (0 : Int32)) C eX11_same_35 (by decide) ?_
  refine v_aload_n C eX11_same_36 rfl 0 rfl ?_
  refine n_get C I fX11_15_X11 eX11_same_37 (hN 74 (by decide)) F.1 rfl ?_
  refine v_iload_n C eX11_same_40 rfl 1 rfl ?_
  refine n_iald C I eX11_same_41 (hN 84 (by decide)) F.2.2.2.1 (ixN q) hq.2 (by omega) (by decide) ?_
  refine v_eq (st' := [.int (0 : Int32), .int (0 : Int32), .ref (ad (76 + ixN n)), .ref (ad (76 + ixN q))]) rfl rfl rfl ?_
  refine v_callS (av := [.ref (ad (76 + ixN q)), .ref (ad (76 + ixN n)), .int ((0 : Int32)), .int ((0 : Int32))]) (rest := []) C mX11_91 (f_alike) rfl (by decide) (by decide) ⟨Nat.le_of_ble_eq_true rfl, Nat.le_of_ble_eq_true rfl⟩ rfl rfl (Nat.le_of_ble_eq_true rfl) eX11_same_42 (fun r w' hp => ?_)
  obtain ⟨rfl, rfl⟩ := hp
  refine v_if_eq (tgt := 52) C eX11_same_45 (by decide) (fun h => absurd h (by decide : ¬ (1 : Int32) = 0)) (fun _ => ?_)
  refine v_iconst (v := (1 : Int32)) C eX11_same_48 (by decide) ?_
  refine v_goto (tgt := 53) C eX11_same_49 (by decide) ?_
  refine x_ret ?_
  refine v_wide (k := 2) (n := 12) (Nat.le_of_ble_eq_true rfl) (Nat.le_of_ble_eq_true rfl) ?_
  exact v_zret C rfl (by decide) eX11_same_53 ⟨σ, rfl, fun _ _ => rfl, (z_same0 ⟨h1, h2⟩).1, by rw [(z_same0 ⟨h1, h2⟩).2]⟩

set_option maxRecDepth 100000 in
set_option maxHeartbeats 4000000 in
theorem p_feed (hl : l.stackTraces = false) (I : nI1 ad N) (hN : ∀ k, k < 86 → k < N) (F : CF G ad x4 x6 x7 σ) (a b c d e : Int32) : xOk G B l yX11_feed cX11_feed 6 (some .int) 7 1 6 [.ref (ad 74), .int a, .int b, .int c, .int d, .int e] (nW ad N σ) (fun r w' => ∃ σ', w' = nW ad N σ' ∧ cK σ σ' ∧ (sp_feed S0 [] a b c d e).1 = 0 ∧ r = some (.int (sp_feed S0 [] a b c d e).2.1)) (nW ad N σ) (fun E => False) := by
  refine xOk.of (by decide +kernel) (Nat.le_of_ble_eq_true rfl) ?_
  intro p e' s m args below meth c' C hnt
  refine v_eq (lv' := [(0, .ref (ad 74)), (1, .int a), (2, .int b), (3, .int c), (4, .int d), (5, .int e)]) rfl rfl rfl ?_
  refine v_aload_n C eX11_feed_0 rfl 0 rfl ?_
  refine n_get C I fX11_23_X11 eX11_feed_1 (hN 74 (by decide)) F.1 rfl ?_
  refine v_ldc (v := (65516 : Int32)) C eX11_feed_4 vw_329 ?_
  refine v_icmp_le (tgt := 19) C eX11_feed_6 (by decide) (fun _ => ?_) (fun h => absurd (by decide : (0 : Int32) ≤ 65516) h)
  refine v_aload_n C eX11_feed_19 rfl 0 rfl ?_
  refine v_iload_n C eX11_feed_20 rfl 1 rfl ?_
  refine n_callV (As := [.int a]) (rest := []) C I mX11_60 (f_putOnTape I hN a 0 (by decide) F.1 F.2.2.2.2) (hN 74 (by decide)) F.1 rfl (by decide) (by decide) ⟨Nat.le_of_ble_eq_true rfl, Nat.le_of_ble_eq_true rfl⟩ rfl rfl (Nat.le_of_ble_eq_true rfl) eX11_feed_21 (fun r σ0 hp => ?_)
  obtain ⟨rfl, ga0, ⟨fb0, gb0⟩, gc0⟩ := hp
  refine v_aload_n C eX11_feed_24 rfl 0 rfl ?_
  refine v_iload_n C eX11_feed_25 rfl 2 rfl ?_
  refine n_callV (As := [.int b]) (rest := []) C I mX11_60 (f_putOnTape I hN b 4 (by decide) ga0 gb0) (hN 74 (by decide)) ga0 rfl (by decide) (by decide) ⟨Nat.le_of_ble_eq_true rfl, Nat.le_of_ble_eq_true rfl⟩ rfl rfl (Nat.le_of_ble_eq_true rfl) eX11_feed_26 (fun r σ1 hp => ?_)
  obtain ⟨rfl, ga1, ⟨fb1, gb1⟩, gc1⟩ := hp
  refine v_aload_n C eX11_feed_29 rfl 0 rfl ?_
  refine v_iload_n C eX11_feed_30 rfl 3 rfl ?_
  refine n_callV (As := [.int c]) (rest := []) C I mX11_60 (f_putOnTape I hN c 8 (by decide) ga1 gb1) (hN 74 (by decide)) ga1 rfl (by decide) (by decide) ⟨Nat.le_of_ble_eq_true rfl, Nat.le_of_ble_eq_true rfl⟩ rfl rfl (Nat.le_of_ble_eq_true rfl) eX11_feed_31 (fun r σ2 hp => ?_)
  obtain ⟨rfl, ga2, ⟨fb2, gb2⟩, gc2⟩ := hp
  refine v_aload_n C eX11_feed_34 rfl 0 rfl ?_
  refine v_iload C eX11_feed_35 4 rfl ?_
  refine n_callV (As := [.int d]) (rest := []) C I mX11_60 (f_putOnTape I hN d 12 (by decide) ga2 gb2) (hN 74 (by decide)) ga2 rfl (by decide) (by decide) ⟨Nat.le_of_ble_eq_true rfl, Nat.le_of_ble_eq_true rfl⟩ rfl rfl (Nat.le_of_ble_eq_true rfl) eX11_feed_37 (fun r σ3 hp => ?_)
  obtain ⟨rfl, ga3, ⟨fb3, gb3⟩, gc3⟩ := hp
  refine v_aload_n C eX11_feed_40 rfl 0 rfl ?_
  refine v_iload C eX11_feed_41 5 rfl ?_
  refine n_callV (As := [.int e]) (rest := []) C I mX11_60 (f_putOnTape I hN e 16 (by decide) ga3 gb3) (hN 74 (by decide)) ga3 rfl (by decide) (by decide) ⟨Nat.le_of_ble_eq_true rfl, Nat.le_of_ble_eq_true rfl⟩ rfl rfl (Nat.le_of_ble_eq_true rfl) eX11_feed_43 (fun r σ4 hp => ?_)
  obtain ⟨rfl, ga4, ⟨fb4, gb4⟩, gc4⟩ := hp
  refine v_aload_n C eX11_feed_46 rfl 0 rfl ?_
  refine n_get C I fX11_23_X11 eX11_feed_47 (hN 74 (by decide)) ga4 rfl ?_
  refine x_ret ?_
  refine v_wide (k := 1) (n := 6) (Nat.le_of_ble_eq_true rfl) (Nat.le_of_ble_eq_true rfl) ?_
  exact v_iret C rfl eX11_feed_50 ⟨_, rfl, fun k hk => (gc4 k hk).trans ((gc3 k hk).trans ((gc2 k hk).trans ((gc1 k hk).trans (gc0 k hk)))), rfl, rfl⟩

set_option maxRecDepth 100000 in
set_option maxHeartbeats 4000000 in
theorem p_keys (hl : l.stackTraces = false) (I : nI1 ad N) (hN : ∀ k, k < 86 → k < N) (F : CF G ad x4 x6 x7 σ) (p : Int32) : xOk G B l yX11_slhKeys cX11_slhKeys 5 (some .int) 7 2 12 [.ref (ad 74), .int p] (nW ad N σ) (fun r w' => ∃ σ', w' = nW ad N σ' ∧ cK σ σ' ∧ (sp_keys θ S0 [] p).1 = 0 ∧ r = some (.int (sp_keys θ S0 [] p).2.1)) (nW ad N σ) (fun E => (E = eIAE ∧ (sp_keys θ S0 [] p).1 = 1) ∨ (E = eISE ∧ (sp_keys θ S0 [] p).1 = 2)) := by
  refine xOk.of (by decide +kernel) (Nat.le_of_ble_eq_true rfl) ?_
  intro p' e s m args below meth c C hnt
  refine v_eq (lv' := [(0, .ref (ad 74)), (1, .int p)]) rfl rfl rfl ?_
  refine v_iload_n C eX11_slhKeys_0 rfl 1 rfl ?_
  refine x_callS (av := [.int p]) (rest := []) C hnoX11 hnt mX11_95 (f_checkSet hl p) rfl (by decide) (by decide) ⟨Nat.le_of_ble_eq_true rfl, Nat.le_of_ble_eq_true rfl⟩ rfl rfl (Nat.le_of_ble_eq_true rfl) eX11_slhKeys_1 (fun E h => Or.inl ⟨h.1, z_keys1 h.2⟩) (fun _ _ h => h) ⟨Nat.le_of_ble_eq_true rfl, Nat.le_of_ble_eq_true rfl⟩ (fun r w' hp => ?_)
  obtain ⟨rfl, rfl, h1⟩ := hp
  have hp0 := (ixN_of (M := 11) (n := 11) (by decide) h1)
  refine v_iload_n C eX11_slhKeys_4 rfl 1 rfl ?_
  refine v_callS (av := [.int p]) (rest := []) C mX11_98 (f_sizesOf p hp0) rfl (by decide) (by decide) ⟨Nat.le_of_ble_eq_true rfl, Nat.le_of_ble_eq_true rfl⟩ rfl rfl (Nat.le_of_ble_eq_true rfl) eX11_slhKeys_5 (fun r w' hp => ?_)
  obtain ⟨rfl, rfl⟩ := hp
  refine v_astore_n (lv' := [(0, .ref (ad 74)), (1, .int p), (2, .ref (G.2 (20 + ixN p % 6)))]) C eX11_slhKeys_8 rfl (by decide) [1, 2, 0] rfl ?_
  refine v_aload_n C eX11_slhKeys_9 rfl 2 rfl ?_
  refine v_getE C (ixN p % 6) (by omega) "n" [16, 16, 24, 24, 32, 32] (by decide) slX11_102 eX11_slhKeys_10 ?_
  refine v_istore_n (lv' := [(0, .ref (ad 74)), (1, .int p), (2, .ref (G.2 (20 + ixN p % 6))), (3, .int (([16, 16, 24, 24, 32, 32] : List Int32).getD (ixN p % 6) 0))]) C eX11_slhKeys_13 rfl (by decide) [1, 2, 3, 0] rfl ?_
  refine v_aload_n C eX11_slhKeys_14 rfl 0 rfl ?_
  refine n_get C I fX11_15_X11 eX11_slhKeys_15 (hN 74 (by decide)) F.1 rfl ?_
  refine v_iconst (v := (0 : Int32)) C eX11_slhKeys_18 (by decide) ?_
  refine n_iald C I eX11_slhKeys_19 (hN 84 (by decide)) F.2.2.2.1 0 (rfl : (0 : Int32) = nI 0) (by omega) (by decide) ?_
  refine v_iconst (v := (3 : Int32)) C eX11_slhKeys_20 (by decide) ?_
  refine v_iload_n C eX11_slhKeys_21 rfl 3 rfl ?_
  refine v_imul C eX11_slhKeys_22 ?_
  refine v_icmp_eq (tgt := 36) C eX11_slhKeys_23 (by decide) (fun h => absurd h (en_n _ (by omega : ixN p % 6 < 6)).2.1) (fun _ => ?_)
  exact x_throw hl C hnt (text := "RANDOM has not three seeds") xISE (by decide) rfl (by decide) eX11_slhKeys_26 eX11_slhKeys_29 eX11_slhKeys_30 eX11_slhKeys_32 eX11_slhKeys_35 (Or.inr ⟨rfl, z_keys2 h1⟩) (by decide) ⟨Nat.le_of_ble_eq_true rfl, Nat.le_of_ble_eq_true rfl⟩ ⟨Nat.le_of_ble_eq_true rfl, Nat.le_of_ble_eq_true rfl⟩ (fun _ _ h => h)

set_option maxRecDepth 100000 in
set_option maxHeartbeats 4000000 in
theorem p_sign (hl : l.stackTraces = false) (I : nI1 ad N) (hN : ∀ k, k < 86 → k < N) (F : CF G ad x4 x6 x7 σ) (p h : Int32) : xOk G B l yX11_slhSign cX11_slhSign 8 (some .int) 7 4 24 [.ref (ad 74), .int p, .int h] (nW ad N σ) (fun r w' => ∃ σ', w' = nW ad N σ' ∧ cK σ σ' ∧ (sp_sign θ S0 [] p h).1 = 0 ∧ r = some (.int (sp_sign θ S0 [] p h).2.1)) (nW ad N σ) (fun E => (E = eIAE ∧ (sp_sign θ S0 [] p h).1 = 1) ∨ (E = eUOE ∧ (sp_sign θ S0 [] p h).1 = 3)) := by
  refine xOk.of (by decide +kernel) (Nat.le_of_ble_eq_true rfl) ?_
  intro p' e s m args below meth c C hnt
  refine v_eq (lv' := [(0, .ref (ad 74)), (1, .int p), (2, .int h)]) rfl rfl rfl ?_
  refine v_iload_n C eX11_slhSign_0 rfl 1 rfl ?_
  refine x_callS (av := [.int p]) (rest := []) C hnoX11 hnt mX11_95 (f_checkSet hl p) rfl (by decide) (by decide) ⟨Nat.le_of_ble_eq_true rfl, Nat.le_of_ble_eq_true rfl⟩ rfl rfl (Nat.le_of_ble_eq_true rfl) eX11_slhSign_1 (fun E q => Or.inl ⟨q.1, z_sign1 (fun g => q.2 g.1)⟩) (fun _ _ h => h) ⟨Nat.le_of_ble_eq_true rfl, Nat.le_of_ble_eq_true rfl⟩ (fun r w' hp => ?_)
  obtain ⟨rfl, rfl, h1⟩ := hp
  have hp0 := (ixN_of (M := 11) (n := 11) (by decide) h1)
  refine v_iload_n C eX11_slhSign_4 rfl 2 rfl ?_
  refine x_callS (av := [.int h]) (rest := []) C hnoX11 hnt mX11_140 (f_checkHow hl h) rfl (by decide) (by decide) ⟨Nat.le_of_ble_eq_true rfl, Nat.le_of_ble_eq_true rfl⟩ rfl rfl (Nat.le_of_ble_eq_true rfl) eX11_slhSign_5 (fun E q => Or.inl ⟨q.1, z_sign1 (fun g => q.2 g.2)⟩) (fun _ _ h => h) ⟨Nat.le_of_ble_eq_true rfl, Nat.le_of_ble_eq_true rfl⟩ (fun r w' hp => ?_)
  obtain ⟨rfl, rfl, h2⟩ := hp
  refine v_iload_n C eX11_slhSign_8 rfl 1 rfl ?_
  refine v_callS (av := [.int p]) (rest := []) C mX11_98 (f_sizesOf p hp0) rfl (by decide) (by decide) ⟨Nat.le_of_ble_eq_true rfl, Nat.le_of_ble_eq_true rfl⟩ rfl rfl (Nat.le_of_ble_eq_true rfl) eX11_slhSign_9 (fun r w' hp => ?_)
  obtain ⟨rfl, rfl⟩ := hp
  refine v_astore_n (lv' := [(0, .ref (ad 74)), (1, .int p), (2, .int h), (3, .ref (G.2 (20 + ixN p % 6)))]) C eX11_slhSign_12 rfl (by decide) [1, 2, 3, 0] rfl ?_
  refine v_aload_n C eX11_slhSign_13 rfl 0 rfl ?_
  refine v_iload_n C eX11_slhSign_14 rfl 2 rfl ?_
  refine x_callV (As := [.int h]) (rest := []) C hnoX11 hnt mX11_143 (f_checkContext hl I hN F h) ((nW_at I (hN 74 (by decide))).trans (congrArg some F.1)) rfl (by decide) (by decide) ⟨Nat.le_of_ble_eq_true rfl, Nat.le_of_ble_eq_true rfl⟩ rfl rfl (Nat.le_of_ble_eq_true rfl) eX11_slhSign_15 (fun E q => absurd q not_false) (fun _ _ h => h) ⟨Nat.le_of_ble_eq_true rfl, Nat.le_of_ble_eq_true rfl⟩ (fun r w' hp => ?_)
  obtain ⟨rfl, rfl⟩ := hp
  refine v_aload_n C eX11_slhSign_18 rfl 0 rfl ?_
  refine n_get C I fX11_15_X11 eX11_slhSign_19 (hN 74 (by decide)) F.1 rfl ?_
  refine v_iconst (v := (0 : Int32)) C eX11_slhSign_22 (by decide) ?_
  refine n_iald C I eX11_slhSign_23 (hN 84 (by decide)) F.2.2.2.1 0 (rfl : (0 : Int32) = nI 0) (by omega) (by decide) ?_
  refine v_if_eq (tgt := 50) C eX11_slhSign_24 (by decide) (fun _ => ?_) (fun h => absurd (rfl : (fun _ => (0 : Int32)) 0 = 0) h)
  refine v_aload_n C eX11_slhSign_50 rfl 0 rfl ?_
  refine v_aload_n C eX11_slhSign_51 rfl 3 rfl ?_
  refine x_callV (As := [.ref (G.2 (20 + ixN p % 6))]) (rest := []) C hnoX11 hnt mX11_148 (f_checkSecret hl I hN F (ixN p % 6) (by omega)) ((nW_at I (hN 74 (by decide))).trans (congrArg some F.1)) rfl (by decide) (by decide) ⟨Nat.le_of_ble_eq_true rfl, Nat.le_of_ble_eq_true rfl⟩ rfl rfl (Nat.le_of_ble_eq_true rfl) eX11_slhSign_52 (fun E q => Or.inr ⟨q, z_sign3 ⟨h1, h2⟩⟩) (fun _ _ h => h) ⟨Nat.le_of_ble_eq_true rfl, Nat.le_of_ble_eq_true rfl⟩ (fun r w' hp => ?_)
  exact absurd hp not_false

set_option maxRecDepth 100000 in
set_option maxHeartbeats 4000000 in
theorem p_verify (hl : l.stackTraces = false) (I : nI1 ad N) (hN : ∀ k, k < 86 → k < N) (F : CF G ad x4 x6 x7 σ) (p h : Int32) : xOk G B l yX11_slhVerify cX11_slhVerify 9 (some .boolean) 7 4 24 [.ref (ad 74), .int p, .int h] (nW ad N σ) (fun r w' => ∃ σ', w' = nW ad N σ' ∧ cK σ σ' ∧ (sp_verify θ S0 [] p h).1 = 0 ∧ r = some (.int (sp_verify θ S0 [] p h).2.1)) (nW ad N σ) (fun E => (E = eIAE ∧ (sp_verify θ S0 [] p h).1 = 1) ∨ (E = eUOE ∧ (sp_verify θ S0 [] p h).1 = 3)) := by
  refine xOk.of (by decide +kernel) (Nat.le_of_ble_eq_true rfl) ?_
  intro p' e s m args below meth c C hnt
  refine v_eq (lv' := [(0, .ref (ad 74)), (1, .int p), (2, .int h)]) rfl rfl rfl ?_
  refine v_iload_n C eX11_slhVerify_0 rfl 1 rfl ?_
  refine x_callS (av := [.int p]) (rest := []) C hnoX11 hnt mX11_95 (f_checkSet hl p) rfl (by decide) (by decide) ⟨Nat.le_of_ble_eq_true rfl, Nat.le_of_ble_eq_true rfl⟩ rfl rfl (Nat.le_of_ble_eq_true rfl) eX11_slhVerify_1 (fun E q => Or.inl ⟨q.1, z_verify1 (fun g => q.2 g.1)⟩) (fun _ _ h => h) ⟨Nat.le_of_ble_eq_true rfl, Nat.le_of_ble_eq_true rfl⟩ (fun r w' hp => ?_)
  obtain ⟨rfl, rfl, h1⟩ := hp
  have hp0 := (ixN_of (M := 11) (n := 11) (by decide) h1)
  refine v_iload_n C eX11_slhVerify_4 rfl 2 rfl ?_
  refine x_callS (av := [.int h]) (rest := []) C hnoX11 hnt mX11_140 (f_checkHow hl h) rfl (by decide) (by decide) ⟨Nat.le_of_ble_eq_true rfl, Nat.le_of_ble_eq_true rfl⟩ rfl rfl (Nat.le_of_ble_eq_true rfl) eX11_slhVerify_5 (fun E q => Or.inl ⟨q.1, z_verify1 (fun g => q.2 g.2)⟩) (fun _ _ h => h) ⟨Nat.le_of_ble_eq_true rfl, Nat.le_of_ble_eq_true rfl⟩ (fun r w' hp => ?_)
  obtain ⟨rfl, rfl, h2⟩ := hp
  refine v_iload_n C eX11_slhVerify_8 rfl 1 rfl ?_
  refine v_callS (av := [.int p]) (rest := []) C mX11_98 (f_sizesOf p hp0) rfl (by decide) (by decide) ⟨Nat.le_of_ble_eq_true rfl, Nat.le_of_ble_eq_true rfl⟩ rfl rfl (Nat.le_of_ble_eq_true rfl) eX11_slhVerify_9 (fun r w' hp => ?_)
  obtain ⟨rfl, rfl⟩ := hp
  refine v_astore_n (lv' := [(0, .ref (ad 74)), (1, .int p), (2, .int h), (3, .ref (G.2 (20 + ixN p % 6)))]) C eX11_slhVerify_12 rfl (by decide) [1, 2, 3, 0] rfl ?_
  refine v_aload_n C eX11_slhVerify_13 rfl 3 rfl ?_
  refine v_getE C (ixN p % 6) (by omega) "n" [16, 16, 24, 24, 32, 32] (by decide) slX11_102 eX11_slhVerify_14 ?_
  refine v_istore (lv' := [(0, .ref (ad 74)), (1, .int p), (2, .int h), (3, .ref (G.2 (20 + ixN p % 6))), (4, .int (([16, 16, 24, 24, 32, 32] : List Int32).getD (ixN p % 6) 0))]) C eX11_slhVerify_17 (by decide) [1, 2, 3, 4, 0] rfl ?_
  refine v_aload_n C eX11_slhVerify_19 rfl 0 rfl ?_
  refine v_iload_n C eX11_slhVerify_20 rfl 2 rfl ?_
  refine x_callV (As := [.int h]) (rest := []) C hnoX11 hnt mX11_143 (f_checkContext hl I hN F h) ((nW_at I (hN 74 (by decide))).trans (congrArg some F.1)) rfl (by decide) (by decide) ⟨Nat.le_of_ble_eq_true rfl, Nat.le_of_ble_eq_true rfl⟩ rfl rfl (Nat.le_of_ble_eq_true rfl) eX11_slhVerify_21 (fun E q => absurd q not_false) (fun _ _ h => h) ⟨Nat.le_of_ble_eq_true rfl, Nat.le_of_ble_eq_true rfl⟩ (fun r w' hp => ?_)
  obtain ⟨rfl, rfl⟩ := hp
  refine v_aload_n C eX11_slhVerify_24 rfl 0 rfl ?_
  refine n_get C I fX11_15_X11 eX11_slhVerify_25 (hN 74 (by decide)) F.1 rfl ?_
  refine v_iconst (v := (1 : Int32)) C eX11_slhVerify_28 (by decide) ?_
  refine n_iald C I eX11_slhVerify_29 (hN 84 (by decide)) F.2.2.2.1 1 (rfl : (1 : Int32) = nI 1) (by omega) (by decide) ?_
  refine v_iconst (v := (2 : Int32)) C eX11_slhVerify_30 (by decide) ?_
  refine v_iload C eX11_slhVerify_31 4 rfl ?_
  refine v_imul C eX11_slhVerify_33 ?_
  refine v_icmp_eq (tgt := 47) C eX11_slhVerify_34 (by decide) (fun h => absurd h (en_n _ (by omega : ixN p % 6 < 6)).2.2) (fun _ => ?_)
  exact x_throw hl C hnt (text := "PUBLIC is no key of this set") xUOE (by decide) rfl (by decide) eX11_slhVerify_37 eX11_slhVerify_40 eX11_slhVerify_41 eX11_slhVerify_43 eX11_slhVerify_46 (Or.inr ⟨rfl, z_verify3 ⟨h1, h2⟩⟩) (by decide) ⟨Nat.le_of_ble_eq_true rfl, Nat.le_of_ble_eq_true rfl⟩ ⟨Nat.le_of_ble_eq_true rfl, Nat.le_of_ble_eq_true rfl⟩ (fun _ _ h => h)

set_option maxRecDepth 100000 in
set_option maxHeartbeats 4000000 in
theorem p_node (hl : l.stackTraces = false) (I : nI1 ad N) (hN : ∀ k, k < 86 → k < N) (F : CF G ad x4 x6 x7 σ) (p ly tr z i : Int32) : xOk G B l yX11_slhNode cX11_slhNode 8 (some .int) 7 2 12 [.ref (ad 74), .int p, .int ly, .int tr, .int z, .int i] (nW ad N σ) (fun r w' => ∃ σ', w' = nW ad N σ' ∧ cK σ σ' ∧ (sp_node θ S0 [] p ly tr z i).1 = 0 ∧ r = some (.int (sp_node θ S0 [] p ly tr z i).2.1)) (nW ad N σ) (fun E => (E = eIAE ∧ (sp_node θ S0 [] p ly tr z i).1 = 1) ∨ (E = eUOE ∧ (sp_node θ S0 [] p ly tr z i).1 = 2)) := by
  refine xOk.of (by decide +kernel) (Nat.le_of_ble_eq_true rfl) ?_
  intro p' e s m args below meth c C hnt
  refine v_eq (lv' := [(0, .ref (ad 74)), (1, .int p), (2, .int ly), (3, .int tr), (4, .int z), (5, .int i)]) rfl rfl rfl ?_
  refine v_iload_n C eX11_slhNode_0 rfl 1 rfl ?_
  refine x_callS (av := [.int p]) (rest := []) C hnoX11 hnt mX11_95 (f_checkSet hl p) rfl (by decide) (by decide) ⟨Nat.le_of_ble_eq_true rfl, Nat.le_of_ble_eq_true rfl⟩ rfl rfl (Nat.le_of_ble_eq_true rfl) eX11_slhNode_1 (fun E q => Or.inl ⟨q.1, z_node1 (fun g => q.2 g.1)⟩) (fun _ _ h => h) ⟨Nat.le_of_ble_eq_true rfl, Nat.le_of_ble_eq_true rfl⟩ (fun r w' hp => ?_)
  obtain ⟨rfl, rfl, h1⟩ := hp
  have hp0 := (ixN_of (M := 11) (n := 11) (by decide) h1)
  refine v_iload_n C eX11_slhNode_4 rfl 1 rfl ?_
  refine v_callS (av := [.int p]) (rest := []) C mX11_98 (f_sizesOf p hp0) rfl (by decide) (by decide) ⟨Nat.le_of_ble_eq_true rfl, Nat.le_of_ble_eq_true rfl⟩ rfl rfl (Nat.le_of_ble_eq_true rfl) eX11_slhNode_5 (fun r w' hp => ?_)
  obtain ⟨rfl, rfl⟩ := hp
  refine v_astore (lv' := [(0, .ref (ad 74)), (1, .int p), (2, .int ly), (3, .int tr), (4, .int z), (5, .int i), (6, .ref (G.2 (20 + ixN p % 6)))]) C eX11_slhNode_8 (by decide) [1, 2, 3, 4, 5, 6, 0] rfl ?_
  refine v_iload_n C eX11_slhNode_10 rfl 2 rfl ?_
  refine v_if_lt (tgt := 27) C eX11_slhNode_11 (by decide) (fun c1 => ?_) (fun c1 => ?_)
  · exact x_throw hl C hnt (text := "no such tree") xIAE (by decide) rfl (by decide) eX11_slhNode_27 eX11_slhNode_30 eX11_slhNode_31 eX11_slhNode_33 eX11_slhNode_36 (Or.inl ⟨rfl, z_node1 (fun g => absurd (Int32.not_lt.mpr g.2.1.1) (not_not_intro c1))⟩) (by decide) ⟨Nat.le_of_ble_eq_true rfl, Nat.le_of_ble_eq_true rfl⟩ ⟨Nat.le_of_ble_eq_true rfl, Nat.le_of_ble_eq_true rfl⟩ (fun _ _ h => h)
  · refine v_iload_n C eX11_slhNode_14 rfl 2 rfl ?_
    refine v_aload C eX11_slhNode_15 6 rfl ?_
    refine v_getE C (ixN p % 6) (by omega) "d" [7, 22, 7, 22, 8, 17] (by decide) slX11_120 eX11_slhNode_17 ?_
    refine v_icmp_ge (tgt := 27) C eX11_slhNode_20 (by decide) (fun c2 => ?_) (fun c2 => ?_)
    · exact x_throw hl C hnt (text := "no such tree") xIAE (by decide) rfl (by decide) eX11_slhNode_27 eX11_slhNode_30 eX11_slhNode_31 eX11_slhNode_33 eX11_slhNode_36 (Or.inl ⟨rfl, z_node1 (fun g => absurd (Int32.not_le.mpr g.2.1.2) (not_not_intro c2))⟩) (by decide) ⟨Nat.le_of_ble_eq_true rfl, Nat.le_of_ble_eq_true rfl⟩ ⟨Nat.le_of_ble_eq_true rfl, Nat.le_of_ble_eq_true rfl⟩ (fun _ _ h => h)
    · refine v_iload_n C eX11_slhNode_23 rfl 3 rfl ?_
      refine v_if_ge (tgt := 37) C eX11_slhNode_24 (by decide) (fun c3 => ?_) (fun c3 => ?_)
      · refine v_iload C eX11_slhNode_37 4 rfl ?_
        refine v_if_lt (tgt := 72) C eX11_slhNode_39 (by decide) (fun c4 => ?_) (fun c4 => ?_)
        · exact x_throw hl C hnt (text := "no such node") xIAE (by decide) rfl (by decide) eX11_slhNode_72 eX11_slhNode_75 eX11_slhNode_76 eX11_slhNode_78 eX11_slhNode_81 (Or.inl ⟨rfl, z_node1 (fun g => absurd (Int32.not_lt.mpr g.2.2.2.1.1) (not_not_intro c4))⟩) (by decide) ⟨Nat.le_of_ble_eq_true rfl, Nat.le_of_ble_eq_true rfl⟩ ⟨Nat.le_of_ble_eq_true rfl, Nat.le_of_ble_eq_true rfl⟩ (fun _ _ h => h)
        · refine v_iload C eX11_slhNode_42 4 rfl ?_
          refine v_aload C eX11_slhNode_44 6 rfl ?_
          refine v_getE C (ixN p % 6) (by omega) "p" [9, 3, 9, 3, 8, 4] (by decide) slX11_127 eX11_slhNode_46 ?_
          refine v_icmp_gt (tgt := 72) C eX11_slhNode_49 (by decide) (fun c5 => ?_) (fun c5 => ?_)
          · exact x_throw hl C hnt (text := "no such node") xIAE (by decide) rfl (by decide) eX11_slhNode_72 eX11_slhNode_75 eX11_slhNode_76 eX11_slhNode_78 eX11_slhNode_81 (Or.inl ⟨rfl, z_node1 (fun g => absurd (Int32.not_lt.mpr g.2.2.2.1.2) (not_not_intro c5))⟩) (by decide) ⟨Nat.le_of_ble_eq_true rfl, Nat.le_of_ble_eq_true rfl⟩ ⟨Nat.le_of_ble_eq_true rfl, Nat.le_of_ble_eq_true rfl⟩ (fun _ _ h => h)
          · refine v_iload C eX11_slhNode_52 5 rfl ?_
            refine v_if_lt (tgt := 72) C eX11_slhNode_54 (by decide) (fun c6 => ?_) (fun c6 => ?_)
            · exact x_throw hl C hnt (text := "no such node") xIAE (by decide) rfl (by decide) eX11_slhNode_72 eX11_slhNode_75 eX11_slhNode_76 eX11_slhNode_78 eX11_slhNode_81 (Or.inl ⟨rfl, z_node1 (fun g => absurd (Int32.not_lt.mpr g.2.2.2.2.1) (not_not_intro c6))⟩) (by decide) ⟨Nat.le_of_ble_eq_true rfl, Nat.le_of_ble_eq_true rfl⟩ ⟨Nat.le_of_ble_eq_true rfl, Nat.le_of_ble_eq_true rfl⟩ (fun _ _ h => h)
            · refine v_iload C eX11_slhNode_57 5 rfl ?_
              refine v_iconst (v := (1 : Int32)) C eX11_slhNode_59 (by decide) ?_
              refine v_aload C eX11_slhNode_60 6 rfl ?_
              refine v_getE C (ixN p % 6) (by omega) "p" [9, 3, 9, 3, 8, 4] (by decide) slX11_127 eX11_slhNode_62 ?_
              refine v_iload C eX11_slhNode_65 4 rfl ?_
              refine v_isub C eX11_slhNode_67 ?_
              refine v_ishl C eX11_slhNode_68 ?_
              refine v_icmp_lt (tgt := 82) C eX11_slhNode_69 (by decide) (fun c7 => ?_) (fun c7 => ?_)
              · refine v_aload_n C eX11_slhNode_82 rfl 0 rfl ?_
                refine v_aload C eX11_slhNode_83 6 rfl ?_
                refine x_callV (As := [.ref (G.2 (20 + ixN p % 6))]) (rest := []) C hnoX11 hnt mX11_148 (f_checkSecret hl I hN F (ixN p % 6) (by omega)) ((nW_at I (hN 74 (by decide))).trans (congrArg some F.1)) rfl (by decide) (by decide) ⟨Nat.le_of_ble_eq_true rfl, Nat.le_of_ble_eq_true rfl⟩ rfl rfl (Nat.le_of_ble_eq_true rfl) eX11_slhNode_85 (fun E q => Or.inr ⟨q, z_node2 h1 ⟨⟨Int32.not_lt.mp c1, Int32.not_le.mp c2⟩, c3, ⟨Int32.not_lt.mp c4, Int32.not_lt.mp c5⟩, Int32.not_lt.mp c6, c7⟩⟩) (fun _ _ h => h) ⟨Nat.le_of_ble_eq_true rfl, Nat.le_of_ble_eq_true rfl⟩ (fun r w' hp => ?_)
                exact absurd hp not_false
              · exact x_throw hl C hnt (text := "no such node") xIAE (by decide) rfl (by decide) eX11_slhNode_72 eX11_slhNode_75 eX11_slhNode_76 eX11_slhNode_78 eX11_slhNode_81 (Or.inl ⟨rfl, z_node1 (fun g => c7 g.2.2.2.2.2)⟩) (by decide) ⟨Nat.le_of_ble_eq_true rfl, Nat.le_of_ble_eq_true rfl⟩ ⟨Nat.le_of_ble_eq_true rfl, Nat.le_of_ble_eq_true rfl⟩ (fun _ _ h => h)
      · exact x_throw hl C hnt (text := "no such tree") xIAE (by decide) rfl (by decide) eX11_slhNode_27 eX11_slhNode_30 eX11_slhNode_31 eX11_slhNode_33 eX11_slhNode_36 (Or.inl ⟨rfl, z_node1 (fun g => c3 g.2.2.1)⟩) (by decide) ⟨Nat.le_of_ble_eq_true rfl, Nat.le_of_ble_eq_true rfl⟩ ⟨Nat.le_of_ble_eq_true rfl, Nat.le_of_ble_eq_true rfl⟩ (fun _ _ h => h)

end PM
