theorem eX12_resize_0 : vD cX12_resize 0 (.aload_n 0) 1 1 := ⟨by decide +kernel, rfl⟩
theorem eX12_resize_1 : vD cX12_resize 1 (.iload_n 1) 1 2 := ⟨by decide +kernel, rfl⟩
theorem eX12_resize_2 : vD cX12_resize 2 (.iconst 0) 1 3 := ⟨by decide +kernel, rfl⟩
theorem eX12_resize_3 : vD cX12_resize 3 (.bipush 7) 2 5 := ⟨by decide +kernel, rfl⟩
theorem eX12_resize_5 : vD cX12_resize 5 (.invokestatic 138) 3 8 := ⟨by decide +kernel, rfl⟩
theorem eX12_resize_8 : vD cX12_resize 8 (.ifCond .eq 17) 3 11 := ⟨by decide +kernel, rfl⟩
theorem eX12_resize_11 : vD cX12_resize 11 (.iload_n 2) 1 12 := ⟨by decide +kernel, rfl⟩
theorem eX12_resize_12 : vD cX12_resize 12 (.iconst 0) 1 13 := ⟨by decide +kernel, rfl⟩
theorem eX12_resize_13 : vD cX12_resize 13 (.ldc 9) 2 15 := ⟨by decide +kernel, rfl⟩
theorem eX12_resize_15 : vD cX12_resize 15 (.invokestatic 138) 3 18 := ⟨by decide +kernel, rfl⟩
theorem eX12_resize_18 : vD cX12_resize 18 (.ifCond .eq 7) 3 21 := ⟨by decide +kernel, rfl⟩
theorem eX12_resize_21 : vD cX12_resize 21 (.iconst 1) 1 22 := ⟨by decide +kernel, rfl⟩
theorem eX12_resize_22 : vD cX12_resize 22 (.goto 4) 3 25 := ⟨by decide +kernel, rfl⟩
theorem eX12_resize_25 : vD cX12_resize 25 (.iconst 0) 1 26 := ⟨by decide +kernel, rfl⟩
theorem eX12_resize_26 : vD cX12_resize 26 (.iconst 1) 1 27 := ⟨by decide +kernel, rfl⟩
theorem eX12_resize_27 : vD cX12_resize 27 (.invokevirtual 130) 3 30 := ⟨by decide +kernel, rfl⟩
theorem eX12_resize_30 : vD cX12_resize 30 (.ifCond .ne 5) 3 33 := ⟨by decide +kernel, rfl⟩
theorem eX12_resize_33 : vD cX12_resize 33 (.iconst 0) 1 34 := ⟨by decide +kernel, rfl⟩
theorem eX12_resize_34 : vD cX12_resize 34 .ireturn 1 35 := ⟨by decide +kernel, rfl⟩
theorem eX12_resize_35 : vD cX12_resize 35 (.aload_n 0) 1 36 := ⟨by decide +kernel, rfl⟩
theorem eX12_resize_36 : vD cX12_resize 36 (.getfield 19) 3 39 := ⟨by decide +kernel, rfl⟩
theorem eX12_resize_39 : vD cX12_resize 39 (.iload_n 1) 1 40 := ⟨by decide +kernel, rfl⟩
theorem eX12_resize_40 : vD cX12_resize 40 .iaload 1 41 := ⟨by decide +kernel, rfl⟩
theorem eX12_resize_41 : vD cX12_resize 41 (.istore_n 3) 1 42 := ⟨by decide +kernel, rfl⟩
theorem eX12_resize_42 : vD cX12_resize 42 (.iload_n 3) 1 43 := ⟨by decide +kernel, rfl⟩
theorem eX12_resize_43 : vD cX12_resize 43 (.istore 4) 2 45 := ⟨by decide +kernel, rfl⟩
theorem eX12_resize_45 : vD cX12_resize 45 (.iload 4) 2 47 := ⟨by decide +kernel, rfl⟩
theorem eX12_resize_47 : vD cX12_resize 47 (.iload_n 2) 1 48 := ⟨by decide +kernel, rfl⟩
theorem eX12_resize_48 : vD cX12_resize 48 (.if_icmp .ge 19) 3 51 := ⟨by decide +kernel, rfl⟩
theorem eX12_resize_51 : vD cX12_resize 51 (.aload_n 0) 1 52 := ⟨by decide +kernel, rfl⟩
theorem eX12_resize_52 : vD cX12_resize 52 (.getfield 16) 3 55 := ⟨by decide +kernel, rfl⟩
theorem eX12_resize_55 : vD cX12_resize 55 (.iload_n 1) 1 56 := ⟨by decide +kernel, rfl⟩
theorem eX12_resize_56 : vD cX12_resize 56 .aaload 1 57 := ⟨by decide +kernel, rfl⟩
theorem eX12_resize_57 : vD cX12_resize 57 (.iload 4) 2 59 := ⟨by decide +kernel, rfl⟩
theorem eX12_resize_59 : vD cX12_resize 59 (.iconst 0) 1 60 := ⟨by decide +kernel, rfl⟩
theorem eX12_resize_60 : vD cX12_resize 60 .bastore 1 61 := ⟨by decide +kernel, rfl⟩
theorem eX12_resize_61 : vD cX12_resize 61 (.iinc 4 1) 3 64 := ⟨by decide +kernel, rfl⟩
theorem eX12_resize_64 : vD cX12_resize 64 (.goto (-19)) 3 67 := ⟨by decide +kernel, rfl⟩
theorem eX12_resize_67 : vD cX12_resize 67 (.aload_n 0) 1 68 := ⟨by decide +kernel, rfl⟩
theorem eX12_resize_68 : vD cX12_resize 68 (.getfield 19) 3 71 := ⟨by decide +kernel, rfl⟩
theorem eX12_resize_71 : vD cX12_resize 71 (.iload_n 1) 1 72 := ⟨by decide +kernel, rfl⟩
theorem eX12_resize_72 : vD cX12_resize 72 (.iload_n 2) 1 73 := ⟨by decide +kernel, rfl⟩
theorem eX12_resize_73 : vD cX12_resize 73 .iastore 1 74 := ⟨by decide +kernel, rfl⟩
theorem eX12_resize_74 : vD cX12_resize 74 (.iload_n 3) 1 75 := ⟨by decide +kernel, rfl⟩
theorem eX12_resize_75 : vD cX12_resize 75 .ireturn 1 76 := ⟨by decide +kernel, rfl⟩
theorem eX12_alter_0 : vD cX12_alter 0 (.aload_n 0) 1 1 := ⟨by decide +kernel, rfl⟩
theorem eX12_alter_1 : vD cX12_alter 1 (.iload_n 1) 1 2 := ⟨by decide +kernel, rfl⟩
theorem eX12_alter_2 : vD cX12_alter 2 (.iconst 0) 1 3 := ⟨by decide +kernel, rfl⟩
theorem eX12_alter_3 : vD cX12_alter 3 (.bipush 7) 2 5 := ⟨by decide +kernel, rfl⟩
theorem eX12_alter_5 : vD cX12_alter 5 (.invokestatic 138) 3 8 := ⟨by decide +kernel, rfl⟩
theorem eX12_alter_8 : vD cX12_alter 8 (.ifCond .eq 18) 3 11 := ⟨by decide +kernel, rfl⟩
theorem eX12_alter_11 : vD cX12_alter 11 (.iload_n 3) 1 12 := ⟨by decide +kernel, rfl⟩
theorem eX12_alter_12 : vD cX12_alter 12 (.iconst 0) 1 13 := ⟨by decide +kernel, rfl⟩
theorem eX12_alter_13 : vD cX12_alter 13 (.sipush 255) 3 16 := ⟨by decide +kernel, rfl⟩
theorem eX12_alter_16 : vD cX12_alter 16 (.invokestatic 138) 3 19 := ⟨by decide +kernel, rfl⟩
theorem eX12_alter_19 : vD cX12_alter 19 (.ifCond .eq 7) 3 22 := ⟨by decide +kernel, rfl⟩
theorem eX12_alter_22 : vD cX12_alter 22 (.iconst 1) 1 23 := ⟨by decide +kernel, rfl⟩
theorem eX12_alter_23 : vD cX12_alter 23 (.goto 4) 3 26 := ⟨by decide +kernel, rfl⟩
theorem eX12_alter_26 : vD cX12_alter 26 (.iconst 0) 1 27 := ⟨by decide +kernel, rfl⟩
theorem eX12_alter_27 : vD cX12_alter 27 (.iconst 1) 1 28 := ⟨by decide +kernel, rfl⟩
theorem eX12_alter_28 : vD cX12_alter 28 (.invokevirtual 130) 3 31 := ⟨by decide +kernel, rfl⟩
theorem eX12_alter_31 : vD cX12_alter 31 (.ifCond .eq 24) 3 34 := ⟨by decide +kernel, rfl⟩
theorem eX12_alter_34 : vD cX12_alter 34 (.aload_n 0) 1 35 := ⟨by decide +kernel, rfl⟩
theorem eX12_alter_35 : vD cX12_alter 35 (.iload_n 2) 1 36 := ⟨by decide +kernel, rfl⟩
theorem eX12_alter_36 : vD cX12_alter 36 (.iconst 0) 1 37 := ⟨by decide +kernel, rfl⟩
theorem eX12_alter_37 : vD cX12_alter 37 (.aload_n 0) 1 38 := ⟨by decide +kernel, rfl⟩
theorem eX12_alter_38 : vD cX12_alter 38 (.getfield 19) 3 41 := ⟨by decide +kernel, rfl⟩
theorem eX12_alter_41 : vD cX12_alter 41 (.iload_n 1) 1 42 := ⟨by decide +kernel, rfl⟩
theorem eX12_alter_42 : vD cX12_alter 42 .iaload 1 43 := ⟨by decide +kernel, rfl⟩
theorem eX12_alter_43 : vD cX12_alter 43 (.iconst 1) 1 44 := ⟨by decide +kernel, rfl⟩
theorem eX12_alter_44 : vD cX12_alter 44 .isub 1 45 := ⟨by decide +kernel, rfl⟩
theorem eX12_alter_45 : vD cX12_alter 45 (.invokestatic 138) 3 48 := ⟨by decide +kernel, rfl⟩
theorem eX12_alter_48 : vD cX12_alter 48 (.iconst 2) 1 49 := ⟨by decide +kernel, rfl⟩
theorem eX12_alter_49 : vD cX12_alter 49 (.invokevirtual 130) 3 52 := ⟨by decide +kernel, rfl⟩
theorem eX12_alter_52 : vD cX12_alter 52 (.ifCond .ne 5) 3 55 := ⟨by decide +kernel, rfl⟩
theorem eX12_alter_55 : vD cX12_alter 55 (.iconst 0) 1 56 := ⟨by decide +kernel, rfl⟩
theorem eX12_alter_56 : vD cX12_alter 56 .ireturn 1 57 := ⟨by decide +kernel, rfl⟩
theorem eX12_alter_57 : vD cX12_alter 57 (.aload_n 0) 1 58 := ⟨by decide +kernel, rfl⟩
theorem eX12_alter_58 : vD cX12_alter 58 (.getfield 16) 3 61 := ⟨by decide +kernel, rfl⟩
theorem eX12_alter_61 : vD cX12_alter 61 (.iload_n 1) 1 62 := ⟨by decide +kernel, rfl⟩
theorem eX12_alter_62 : vD cX12_alter 62 .aaload 1 63 := ⟨by decide +kernel, rfl⟩
theorem eX12_alter_63 : vD cX12_alter 63 (.iload_n 2) 1 64 := ⟨by decide +kernel, rfl⟩
theorem eX12_alter_64 : vD cX12_alter 64 .dup2 1 65 := ⟨by decide +kernel, rfl⟩
theorem eX12_alter_65 : vD cX12_alter 65 .baload 1 66 := ⟨by decide +kernel, rfl⟩
theorem eX12_alter_66 : vD cX12_alter 66 (.iload_n 3) 1 67 := ⟨by decide +kernel, rfl⟩
theorem eX12_alter_67 : vD cX12_alter 67 .i2b 1 68 := ⟨by decide +kernel, rfl⟩
theorem eX12_alter_68 : vD cX12_alter 68 .ixor 1 69 := ⟨by decide +kernel, rfl⟩
theorem eX12_alter_69 : vD cX12_alter 69 .i2b 1 70 := ⟨by decide +kernel, rfl⟩
theorem eX12_alter_70 : vD cX12_alter 70 .bastore 1 71 := ⟨by decide +kernel, rfl⟩
theorem eX12_alter_71 : vD cX12_alter 71 (.aload_n 0) 1 72 := ⟨by decide +kernel, rfl⟩
theorem eX12_alter_72 : vD cX12_alter 72 (.getfield 16) 3 75 := ⟨by decide +kernel, rfl⟩
theorem eX12_alter_75 : vD cX12_alter 75 (.iload_n 1) 1 76 := ⟨by decide +kernel, rfl⟩
theorem eX12_alter_76 : vD cX12_alter 76 .aaload 1 77 := ⟨by decide +kernel, rfl⟩
theorem eX12_alter_77 : vD cX12_alter 77 (.iload_n 2) 1 78 := ⟨by decide +kernel, rfl⟩
theorem eX12_alter_78 : vD cX12_alter 78 .baload 1 79 := ⟨by decide +kernel, rfl⟩
theorem eX12_alter_79 : vD cX12_alter 79 (.sipush 255) 3 82 := ⟨by decide +kernel, rfl⟩
theorem eX12_alter_82 : vD cX12_alter 82 .iand 1 83 := ⟨by decide +kernel, rfl⟩
theorem eX12_alter_83 : vD cX12_alter 83 .ireturn 1 84 := ⟨by decide +kernel, rfl⟩
theorem eX12_word__0 : vD cX12_word_ 0 (.aload_n 0) 1 1 := ⟨by decide +kernel, rfl⟩
theorem eX12_word__1 : vD cX12_word_ 1 (.iload_n 1) 1 2 := ⟨by decide +kernel, rfl⟩
theorem eX12_word__2 : vD cX12_word_ 2 (.iconst 0) 1 3 := ⟨by decide +kernel, rfl⟩
theorem eX12_word__3 : vD cX12_word_ 3 (.bipush 7) 2 5 := ⟨by decide +kernel, rfl⟩
theorem eX12_word__5 : vD cX12_word_ 5 (.invokestatic 138) 3 8 := ⟨by decide +kernel, rfl⟩
theorem eX12_word__8 : vD cX12_word_ 8 (.iconst 1) 1 9 := ⟨by decide +kernel, rfl⟩
theorem eX12_word__9 : vD cX12_word_ 9 (.invokevirtual 130) 3 12 := ⟨by decide +kernel, rfl⟩
theorem eX12_word__12 : vD cX12_word_ 12 (.ifCond .eq 24) 3 15 := ⟨by decide +kernel, rfl⟩
theorem eX12_word__15 : vD cX12_word_ 15 (.aload_n 0) 1 16 := ⟨by decide +kernel, rfl⟩
theorem eX12_word__16 : vD cX12_word_ 16 (.iload_n 2) 1 17 := ⟨by decide +kernel, rfl⟩
theorem eX12_word__17 : vD cX12_word_ 17 (.iconst 0) 1 18 := ⟨by decide +kernel, rfl⟩
theorem eX12_word__18 : vD cX12_word_ 18 (.aload_n 0) 1 19 := ⟨by decide +kernel, rfl⟩
theorem eX12_word__19 : vD cX12_word_ 19 (.getfield 19) 3 22 := ⟨by decide +kernel, rfl⟩
theorem eX12_word__22 : vD cX12_word_ 22 (.iload_n 1) 1 23 := ⟨by decide +kernel, rfl⟩
theorem eX12_word__23 : vD cX12_word_ 23 .iaload 1 24 := ⟨by decide +kernel, rfl⟩
theorem eX12_word__24 : vD cX12_word_ 24 (.iconst 1) 1 25 := ⟨by decide +kernel, rfl⟩
theorem eX12_word__25 : vD cX12_word_ 25 .isub 1 26 := ⟨by decide +kernel, rfl⟩
theorem eX12_word__26 : vD cX12_word_ 26 (.invokestatic 138) 3 29 := ⟨by decide +kernel, rfl⟩
theorem eX12_word__29 : vD cX12_word_ 29 (.iconst 2) 1 30 := ⟨by decide +kernel, rfl⟩
theorem eX12_word__30 : vD cX12_word_ 30 (.invokevirtual 130) 3 33 := ⟨by decide +kernel, rfl⟩
theorem eX12_word__33 : vD cX12_word_ 33 (.ifCond .ne 5) 3 36 := ⟨by decide +kernel, rfl⟩
theorem eX12_word__36 : vD cX12_word_ 36 (.lconst 0) 1 37 := ⟨by decide +kernel, rfl⟩
theorem eX12_word__37 : vD cX12_word_ 37 .lreturn 1 38 := ⟨by decide +kernel, rfl⟩
theorem eX12_word__38 : vD cX12_word_ 38 (.lconst 0) 1 39 := ⟨by decide +kernel, rfl⟩
theorem eX12_word__39 : vD cX12_word_ 39 (.lstore_n 3) 1 40 := ⟨by decide +kernel, rfl⟩
theorem eX12_word__40 : vD cX12_word_ 40 (.iload_n 2) 1 41 := ⟨by decide +kernel, rfl⟩
theorem eX12_word__41 : vD cX12_word_ 41 (.istore 5) 2 43 := ⟨by decide +kernel, rfl⟩
theorem eX12_word__43 : vD cX12_word_ 43 (.iload 5) 2 45 := ⟨by decide +kernel, rfl⟩
theorem eX12_word__45 : vD cX12_word_ 45 (.iload_n 2) 1 46 := ⟨by decide +kernel, rfl⟩
theorem eX12_word__46 : vD cX12_word_ 46 (.bipush 8) 2 48 := ⟨by decide +kernel, rfl⟩
theorem eX12_word__48 : vD cX12_word_ 48 .iadd 1 49 := ⟨by decide +kernel, rfl⟩
theorem eX12_word__49 : vD cX12_word_ 49 (.if_icmp .ge 44) 3 52 := ⟨by decide +kernel, rfl⟩
theorem eX12_word__52 : vD cX12_word_ 52 (.lload_n 3) 1 53 := ⟨by decide +kernel, rfl⟩
theorem eX12_word__53 : vD cX12_word_ 53 (.bipush 8) 2 55 := ⟨by decide +kernel, rfl⟩
theorem eX12_word__55 : vD cX12_word_ 55 .lshl 1 56 := ⟨by decide +kernel, rfl⟩
theorem eX12_word__56 : vD cX12_word_ 56 (.iload 5) 2 58 := ⟨by decide +kernel, rfl⟩
theorem eX12_word__58 : vD cX12_word_ 58 (.aload_n 0) 1 59 := ⟨by decide +kernel, rfl⟩
theorem eX12_word__59 : vD cX12_word_ 59 (.getfield 19) 3 62 := ⟨by decide +kernel, rfl⟩
theorem eX12_word__62 : vD cX12_word_ 62 (.iload_n 1) 1 63 := ⟨by decide +kernel, rfl⟩
theorem eX12_word__63 : vD cX12_word_ 63 .iaload 1 64 := ⟨by decide +kernel, rfl⟩
theorem eX12_word__64 : vD cX12_word_ 64 (.if_icmp .ge 20) 3 67 := ⟨by decide +kernel, rfl⟩
theorem eX12_word__67 : vD cX12_word_ 67 (.aload_n 0) 1 68 := ⟨by decide +kernel, rfl⟩
theorem eX12_word__68 : vD cX12_word_ 68 (.getfield 16) 3 71 := ⟨by decide +kernel, rfl⟩
theorem eX12_word__71 : vD cX12_word_ 71 (.iload_n 1) 1 72 := ⟨by decide +kernel, rfl⟩
theorem eX12_word__72 : vD cX12_word_ 72 .aaload 1 73 := ⟨by decide +kernel, rfl⟩
theorem eX12_word__73 : vD cX12_word_ 73 (.iload 5) 2 75 := ⟨by decide +kernel, rfl⟩
theorem eX12_word__75 : vD cX12_word_ 75 .baload 1 76 := ⟨by decide +kernel, rfl⟩
theorem eX12_word__76 : vD cX12_word_ 76 .i2l 1 77 := ⟨by decide +kernel, rfl⟩
theorem eX12_word__77 : vD cX12_word_ 77 (.ldc2_w 142) 3 80 := ⟨by decide +kernel, rfl⟩
theorem eX12_word__80 : vD cX12_word_ 80 .land 1 81 := ⟨by decide +kernel, rfl⟩
theorem eX12_word__81 : vD cX12_word_ 81 (.goto 4) 3 84 := ⟨by decide +kernel, rfl⟩
theorem eX12_word__84 : vD cX12_word_ 84 (.lconst 0) 1 85 := ⟨by decide +kernel, rfl⟩
theorem eX12_word__85 : vD cX12_word_ 85 .lor 1 86 := ⟨by decide +kernel, rfl⟩
theorem eX12_word__86 : vD cX12_word_ 86 (.lstore_n 3) 1 87 := ⟨by decide +kernel, rfl⟩
theorem eX12_word__87 : vD cX12_word_ 87 (.iinc 5 1) 3 90 := ⟨by decide +kernel, rfl⟩
theorem eX12_word__90 : vD cX12_word_ 90 (.goto (-47)) 3 93 := ⟨by decide +kernel, rfl⟩
theorem eX12_word__93 : vD cX12_word_ 93 (.lload_n 3) 1 94 := ⟨by decide +kernel, rfl⟩
theorem eX12_word__94 : vD cX12_word_ 94 .lreturn 1 95 := ⟨by decide +kernel, rfl⟩
theorem eX12_same_0 : vD cX12_same 0 (.aload_n 0) 1 1 := ⟨by decide +kernel, rfl⟩
theorem eX12_same_1 : vD cX12_same 1 (.iload_n 1) 1 2 := ⟨by decide +kernel, rfl⟩
theorem eX12_same_2 : vD cX12_same 2 (.iconst 0) 1 3 := ⟨by decide +kernel, rfl⟩
theorem eX12_same_3 : vD cX12_same 3 (.bipush 7) 2 5 := ⟨by decide +kernel, rfl⟩
theorem eX12_same_5 : vD cX12_same 5 (.invokestatic 138) 3 8 := ⟨by decide +kernel, rfl⟩
theorem eX12_same_8 : vD cX12_same 8 (.ifCond .eq 17) 3 11 := ⟨by decide +kernel, rfl⟩
theorem eX12_same_11 : vD cX12_same 11 (.iload_n 2) 1 12 := ⟨by decide +kernel, rfl⟩
theorem eX12_same_12 : vD cX12_same 12 (.iconst 0) 1 13 := ⟨by decide +kernel, rfl⟩
theorem eX12_same_13 : vD cX12_same 13 (.bipush 7) 2 15 := ⟨by decide +kernel, rfl⟩
theorem eX12_same_15 : vD cX12_same 15 (.invokestatic 138) 3 18 := ⟨by decide +kernel, rfl⟩
theorem eX12_same_18 : vD cX12_same 18 (.ifCond .eq 7) 3 21 := ⟨by decide +kernel, rfl⟩
theorem eX12_same_21 : vD cX12_same 21 (.iconst 1) 1 22 := ⟨by decide +kernel, rfl⟩
theorem eX12_same_22 : vD cX12_same 22 (.goto 4) 3 25 := ⟨by decide +kernel, rfl⟩
theorem eX12_same_25 : vD cX12_same 25 (.iconst 0) 1 26 := ⟨by decide +kernel, rfl⟩
theorem eX12_same_26 : vD cX12_same 26 (.iconst 1) 1 27 := ⟨by decide +kernel, rfl⟩
theorem eX12_same_27 : vD cX12_same 27 (.invokevirtual 130) 3 30 := ⟨by decide +kernel, rfl⟩
theorem eX12_same_30 : vD cX12_same 30 (.ifCond .ne 5) 3 33 := ⟨by decide +kernel, rfl⟩
theorem eX12_same_33 : vD cX12_same 33 (.iconst 0) 1 34 := ⟨by decide +kernel, rfl⟩
theorem eX12_same_34 : vD cX12_same 34 .ireturn 1 35 := ⟨by decide +kernel, rfl⟩
theorem eX12_same_35 : vD cX12_same 35 (.aload_n 0) 1 36 := ⟨by decide +kernel, rfl⟩
theorem eX12_same_36 : vD cX12_same 36 (.getfield 19) 3 39 := ⟨by decide +kernel, rfl⟩
theorem eX12_same_39 : vD cX12_same 39 (.iload_n 1) 1 40 := ⟨by decide +kernel, rfl⟩
theorem eX12_same_40 : vD cX12_same 40 .iaload 1 41 := ⟨by decide +kernel, rfl⟩
theorem eX12_same_41 : vD cX12_same 41 (.aload_n 0) 1 42 := ⟨by decide +kernel, rfl⟩
theorem eX12_same_42 : vD cX12_same 42 (.getfield 19) 3 45 := ⟨by decide +kernel, rfl⟩
theorem eX12_same_45 : vD cX12_same 45 (.iload_n 2) 1 46 := ⟨by decide +kernel, rfl⟩
theorem eX12_same_46 : vD cX12_same 46 .iaload 1 47 := ⟨by decide +kernel, rfl⟩
theorem eX12_same_47 : vD cX12_same 47 (.if_icmp .eq 5) 3 50 := ⟨by decide +kernel, rfl⟩
theorem eX12_same_50 : vD cX12_same 50 (.iconst 0) 1 51 := ⟨by decide +kernel, rfl⟩
theorem eX12_same_51 : vD cX12_same 51 .ireturn 1 52 := ⟨by decide +kernel, rfl⟩
theorem eX12_same_52 : vD cX12_same 52 (.iconst 1) 1 53 := ⟨by decide +kernel, rfl⟩
theorem eX12_same_53 : vD cX12_same 53 (.istore_n 3) 1 54 := ⟨by decide +kernel, rfl⟩
theorem eX12_same_54 : vD cX12_same 54 (.iconst 0) 1 55 := ⟨by decide +kernel, rfl⟩
theorem eX12_same_55 : vD cX12_same 55 (.istore 4) 2 57 := ⟨by decide +kernel, rfl⟩
theorem eX12_same_57 : vD cX12_same 57 (.iload 4) 2 59 := ⟨by decide +kernel, rfl⟩
theorem eX12_same_59 : vD cX12_same 59 (.aload_n 0) 1 60 := ⟨by decide +kernel, rfl⟩
theorem eX12_same_60 : vD cX12_same 60 (.getfield 19) 3 63 := ⟨by decide +kernel, rfl⟩
theorem eX12_same_63 : vD cX12_same 63 (.iload_n 1) 1 64 := ⟨by decide +kernel, rfl⟩
theorem eX12_same_64 : vD cX12_same 64 .iaload 1 65 := ⟨by decide +kernel, rfl⟩
theorem eX12_same_65 : vD cX12_same 65 (.if_icmp .ge 32) 3 68 := ⟨by decide +kernel, rfl⟩
theorem eX12_same_68 : vD cX12_same 68 (.aload_n 0) 1 69 := ⟨by decide +kernel, rfl⟩
theorem eX12_same_69 : vD cX12_same 69 (.getfield 16) 3 72 := ⟨by decide +kernel, rfl⟩
theorem eX12_same_72 : vD cX12_same 72 (.iload_n 1) 1 73 := ⟨by decide +kernel, rfl⟩
theorem eX12_same_73 : vD cX12_same 73 .aaload 1 74 := ⟨by decide +kernel, rfl⟩
theorem eX12_same_74 : vD cX12_same 74 (.iload 4) 2 76 := ⟨by decide +kernel, rfl⟩
theorem eX12_same_76 : vD cX12_same 76 .baload 1 77 := ⟨by decide +kernel, rfl⟩
theorem eX12_same_77 : vD cX12_same 77 (.aload_n 0) 1 78 := ⟨by decide +kernel, rfl⟩
theorem eX12_same_78 : vD cX12_same 78 (.getfield 16) 3 81 := ⟨by decide +kernel, rfl⟩
theorem eX12_same_81 : vD cX12_same 81 (.iload_n 2) 1 82 := ⟨by decide +kernel, rfl⟩
theorem eX12_same_82 : vD cX12_same 82 .aaload 1 83 := ⟨by decide +kernel, rfl⟩
theorem eX12_same_83 : vD cX12_same 83 (.iload 4) 2 85 := ⟨by decide +kernel, rfl⟩
theorem eX12_same_85 : vD cX12_same 85 .baload 1 86 := ⟨by decide +kernel, rfl⟩
theorem eX12_same_86 : vD cX12_same 86 (.if_icmp .eq 5) 3 89 := ⟨by decide +kernel, rfl⟩
theorem eX12_same_89 : vD cX12_same 89 (.iconst 0) 1 90 := ⟨by decide +kernel, rfl⟩
theorem eX12_same_90 : vD cX12_same 90 (.istore_n 3) 1 91 := ⟨by decide +kernel, rfl⟩
theorem eX12_same_91 : vD cX12_same 91 (.iinc 4 1) 3 94 := ⟨by decide +kernel, rfl⟩
theorem eX12_same_94 : vD cX12_same 94 (.goto (-37)) 3 97 := ⟨by decide +kernel, rfl⟩
theorem eX12_same_97 : vD cX12_same 97 (.iload_n 3) 1 98 := ⟨by decide +kernel, rfl⟩
theorem eX12_same_98 : vD cX12_same 98 .ireturn 1 99 := ⟨by decide +kernel, rfl⟩

theorem rsz_a {L : List Int32} {n : Nat} (h : n ≤ L.length) : rsz L n = L.take n := by
  unfold rsz
  rw [show n - L.length = 0 by omega, List.replicate_zero, List.append_nil]
theorem rsz_len {L : List Int32} {n : Nat} : (rsz L n).length = n := by
  unfold rsz
  rw [List.length_take, List.length_append, List.length_replicate]
  omega
theorem nrw_rep {n : Nat} : nrw (List.replicate n 0) := fun v hv => by
  rw [(List.mem_replicate.mp hv).2]
  exact nar_0
theorem nrw_rsz {L : List Int32} {n : Nat} (h : nrw L) : nrw (rsz L n) := fun v hv => nrw_app h nrw_rep v (List.mem_of_mem_take hv)
/-- a row whose first bytes are L, from there on zeros -/
theorem rsz_sl {f : Nat → Int32} {L : List Int32} {n : Nat} (hL : sl f 0 L.length = L) : sl (wr f L.length (List.replicate (n - L.length) 0)) 0 n = rsz L n := by
  unfold rsz
  by_cases h : n ≤ L.length
  · have e : n - L.length = 0 := by omega
    rw [e, List.replicate_zero, wr_nil, List.append_nil, sl_tk h, hL]
  · have e : wr f L.length (List.replicate (n - L.length) 0) = wr f 0 (L ++ List.replicate (n - L.length) 0) := by
      rw [← wr_app (f := f) (b := 0) (c := L.length) (by omega)]
      congr 1
      exact ((congrArg (wr f 0) hL.symm).trans wr_sl).symm
    rw [e, sl_wr_lsl (by rw [List.length_append, List.length_replicate]; omega)]
    rfl
section M31
variable {G : vG} {B : Nat} {l : Launch} {ad : Nat → Nat} {N : Nat} {θ : tT} {σ : nS}
set_option maxRecDepth 100000 in
set_option maxHeartbeats 4000000 in
theorem ra_copy (I : nI1 ad N) (hN : ∀ k, k < 74 → k < N) {S : sT} {T : List Int32} {cd0 : Int32} (hA : RA G ad θ S T cd0 σ) (p0 p1 : Int32) : nOk G B l ad N yX12_copy cX12_copy 4 (some .int) 1 0 0 [.ref (ad 49), .int p0, .int p1] σ (fun r σ' => r = some (.int (sp_copy S T p0 p1).2.1) ∧ RA G ad θ ((sp_copy S T p0 p1).2.2.1) ((sp_copy S T p0 p1).2.2.2) ((sp_copy S T p0 p1).1) σ' ∧ (∀ k, 74 ≤ k → σ' k = σ k)) := by
  refine vOk.of (by decide +kernel) (Nat.le_of_ble_eq_true rfl) ?_
  intro p e s m args below meth c C
  refine v_eq (lv' := [(0, .ref (ad 49)), (1, .int p0), (2, .int p1)]) rfl rfl rfl ?_
  obtain ⟨x, hC, hcd, hd⟩ := hA
  refine v_aload_n C eX12_copy_0 rfl 0 rfl ?_
  refine v_iload_n C eX12_copy_1 rfl 1 rfl ?_
  refine v_iconst (v := (0 : Int32)) C eX12_copy_2 (by decide) ?_
  refine v_bipush (v := (7 : Int32)) C eX12_copy_3 (by decide) ?_
  refine n_callS (av := [.int p0, .int ((0 : Int32)), .int ((7 : Int32))]) (rest := [.ref (ad 49)]) C mX12_138 (c_in p0 ((0 : Int32)) ((7 : Int32))) rfl (by decide) (by decide) ⟨by decide, by decide⟩ rfl (vi_k (vi_k (vi_k rfl))) (Nat.le_of_ble_eq_true rfl) eX12_copy_5 (fun r ρ hp => ?_)
  obtain ⟨rfl, hρ⟩ := hp
  rw [hρ]
  clear hρ ρ
  by_cases c1 : 0 ≤ p0 ∧ p0 ≤ 7
  · refine v_natT (show (if (0 : Int32) ≤ p0 ∧ p0 ≤ (7 : Int32) then (1 : Int32) else 0) = 1 from if_pos c1) ?_
    refine v_if_eq (tgt := 25) C eX12_copy_8 (by decide) (fun h => absurd h (by decide)) (fun _ => ?_)
    refine v_iload_n C eX12_copy_11 rfl 2 rfl ?_
    refine v_iconst (v := (0 : Int32)) C eX12_copy_12 (by decide) ?_
    refine v_bipush (v := (7 : Int32)) C eX12_copy_13 (by decide) ?_
    refine n_callS (av := [.int p1, .int ((0 : Int32)), .int ((7 : Int32))]) (rest := [.ref (ad 49)]) C mX12_138 (c_in p1 ((0 : Int32)) ((7 : Int32))) rfl (by decide) (by decide) ⟨by decide, by decide⟩ rfl (vi_k (vi_k (vi_k rfl))) (Nat.le_of_ble_eq_true rfl) eX12_copy_15 (fun r ρ hp => ?_)
    obtain ⟨rfl, hρ⟩ := hp
    rw [hρ]
    clear hρ ρ
    by_cases c2 : 0 ≤ p1 ∧ p1 ≤ (7 : Int32)
    · refine v_natT (show (if (0 : Int32) ≤ p1 ∧ p1 ≤ (7 : Int32) then (1 : Int32) else 0) = 1 from if_pos c2) ?_
      refine v_if_eq (tgt := 25) C eX12_copy_18 (by decide) (fun h => absurd h (by decide)) (fun _ => ?_)
      refine v_iconst (v := (1 : Int32)) C eX12_copy_21 (by decide) ?_
      refine v_goto (tgt := 26) C eX12_copy_22 (by decide) ?_
      refine v_iconst (v := (1 : Int32)) C eX12_copy_26 (by decide) ?_
      refine n_callV (As := [.int ((1 : Int32)), .int ((1 : Int32))]) (rest := []) C I mX12_130 (rs_good1 I hN hC 1) (hN 49 (by decide)) hC.obj rfl (by decide) (by decide) ⟨by decide, by decide⟩ rfl (vi_k (vi_k rfl)) (Nat.le_of_ble_eq_true rfl) eX12_copy_27 (fun r σ1 hp => ?_)
      obtain ⟨rfl, hC1, hk1⟩ := hp
      refine v_if_ne (tgt := 35) C eX12_copy_30 (by decide) (fun _ => ?_) (fun h => absurd h (by decide))
      rw [show sp_copy S T p0 p1 = (0, nI (S (ixN p0)).length, seti S (ixN p1) (S (ixN p0)), T) from if_pos ⟨c1, c2⟩]
      obtain ⟨hu0, hu0e⟩ := ixN_of (n := 7) rfl c1
      generalize hgu0 : ixN p0 = u0 at hu0 hu0e
      have hru0 : rLn (50 + u0) = 65536 := rLn_slot _ (by omega)
      have hSu0 := hd.2 u0 (by omega)
      obtain ⟨hu1, hu1e⟩ := ixN_of (n := 7) rfl c2
      generalize hgu1 : ixN p1 = u1 at hu1 hu1e
      have hru1 : rLn (50 + u1) = 65536 := rLn_slot _ (by omega)
      have hSu1 := hd.2 u1 (by omega)
      have kk : ∀ k, ¬ (k = 49) → σ1 k = σ k := hk1
      refine v_iconst (v := nI 0) C eX12_copy_35 (by decide) ?_
      refine v_istore_n (lv' := [(0, .ref (ad 49)), (1, .int p0), (2, .int p1), (3, .int (nI 0))]) C eX12_copy_36 rfl (by decide) [1, 2, 3, 0] rfl ?_
      refine v_forP (fun j τ => RS G ad θ (upd x 4 0) τ ∧ (∀ k, ¬ (k = 50 + u1) → τ k = σ1 k) ∧ bt τ (50 + u1) = wr (bt σ (50 + u1)) 0 (sl (bt σ (50 + u0)) 0 j) ∧ bt τ (50 + u0) = bt σ (50 + u0)) (fun j => [(0, .ref (ad 49)), (1, .int p0), (2, .int p1), (3, .int (nI j))]) ((S u0).length) ?_ ?_ _ ⟨hC1, fun k _ => rfl, (bt_same (kk (50 + u1) (by omega))).trans wr_nil.symm, bt_same (kk (50 + u0) (by omega))⟩
      · intro τ hI
        obtain ⟨hC3, hk3, hv3, hf3⟩ := hI
        have hl3 : bt τ 2 u0 = nI (S u0).length := by rw [bt_same (hk3 2 (by omega)), bt_same (kk 2 (by decide))]; exact hSu0.1
        have hl65 := hSu0.2.1
        refine v_iload_n C eX12_copy_37 rfl 3 rfl ?_
        refine v_aload_n C eX12_copy_38 rfl 0 rfl ?_
        refine n_get C I fX12_19_X12 eX12_copy_39 (hN 49 (by decide)) hC3.obj rfl ?_
        refine v_iload_n C eX12_copy_42 rfl 1 rfl ?_
        refine n_iald C I eX12_copy_43 (hN 2 (by decide)) hC3.len u0 hu0e (by omega) (by decide) ?_
        refine v_icmp_ge (tgt := 69) C eX12_copy_44 (by decide) (fun _ => ?_) (fun h => absurd (ix_le (a := (S u0).length) (b := (S u0).length) hl3 (rfl : nI ((S u0).length) = nI ((S u0).length)) (by omega) (by omega) (by omega)) h)
        refine v_aload_n C eX12_copy_69 rfl 0 rfl ?_
        refine n_get C I fX12_19_X12 eX12_copy_70 (hN 49 (by decide)) hC3.obj rfl ?_
        refine v_iload_n C eX12_copy_73 rfl 2 rfl ?_
        refine v_aload_n C eX12_copy_74 rfl 0 rfl ?_
        refine n_get C I fX12_19_X12 eX12_copy_75 (hN 49 (by decide)) hC3.obj rfl ?_
        refine v_iload_n C eX12_copy_78 rfl 1 rfl ?_
        refine n_iald C I eX12_copy_79 (hN 2 (by decide)) hC3.len u0 hu0e (by omega) (by decide) ?_
        refine v_natT (show (bt τ 2) u0 = nI ((S u0).length) from hl3) ?_
        refine n_iast C I eX12_copy_80 (hN 2 (by decide)) hC3.len u1 hu1e (by omega) (by decide) ?_
        refine v_aload_n C eX12_copy_81 rfl 0 rfl ?_
        refine n_get C I fX12_19_X12 eX12_copy_82 (hN 49 (by decide)) hC3.obj rfl ?_
        refine v_iload_n C eX12_copy_85 rfl 2 rfl ?_
        refine n_iald C I eX12_copy_86 (hN 2 (by decide)) rfl u1 hu1e (by omega) (by decide) ?_
        refine v_natT (show upd (bt τ 2) u1 (nI (S u0).length) u1 = nI (S u0).length from pk_us) ?_
        refine n_iret C rfl eX12_copy_87 ⟨rfl, ⟨upd x 4 0, hC3.upI (Or.inl ⟨rfl, rfl⟩) _, rfl, ?_⟩, fun k hk => (n_ne (by omega)).trans ((hk3 k (by omega)).trans (kk k (by omega)))⟩
        refine hd.set (L := S u0) (fun k hk => (n_ne (by omega)).trans ((hk3 k (by omega)).trans (kk k (by omega)))) ?_ hl65 ?_ hSu0.2.2.2
        · rw [bt_I (G := G) (n := 8) n_self, bt_same (hk3 2 (by omega)), bt_same (kk 2 (by decide))]
        · rw [bt_same (k := 50 + u1) (n_ne (by omega)), hv3, sl_wr' sl_len]; exact hSu0.2.2.1
      · intro j hj ih τ hI
        obtain ⟨hC3, hk3, hv3, hf3⟩ := hI
        have hl3 : bt τ 2 u0 = nI (S u0).length := by rw [bt_same (hk3 2 (by omega)), bt_same (kk 2 (by decide))]; exact hSu0.1
        have hl65 := hSu0.2.1
        refine v_iload_n C eX12_copy_37 rfl 3 rfl ?_
        refine v_aload_n C eX12_copy_38 rfl 0 rfl ?_
        refine n_get C I fX12_19_X12 eX12_copy_39 (hN 49 (by decide)) hC3.obj rfl ?_
        refine v_iload_n C eX12_copy_42 rfl 1 rfl ?_
        refine n_iald C I eX12_copy_43 (hN 2 (by decide)) hC3.len u0 hu0e (by omega) (by decide) ?_
        refine v_icmp_ge (tgt := 69) C eX12_copy_44 (by decide) (fun h => absurd h (ix_nle (a := (S u0).length) (b := j) hl3 (rfl : nI j = nI j) (by omega) (by omega) (by omega))) (fun _ => ?_)
        refine v_aload_n C eX12_copy_47 rfl 0 rfl ?_
        refine n_get C I fX12_16_X12 eX12_copy_48 (hN 49 (by decide)) hC3.obj rfl ?_
        refine v_iload_n C eX12_copy_51 rfl 2 rfl ?_
        refine n_aald (b := ad (50 + u1)) C I eX12_copy_52 (hN 1 (by decide)) hC3.slot u1 hu1e (by omega) (by decide) (eRf_at (by omega)) ?_
        refine v_iload_n C eX12_copy_53 rfl 3 rfl ?_
        refine v_aload_n C eX12_copy_54 rfl 0 rfl ?_
        refine n_get C I fX12_16_X12 eX12_copy_55 (hN 49 (by decide)) hC3.obj rfl ?_
        refine v_iload_n C eX12_copy_58 rfl 1 rfl ?_
        refine n_aald (b := ad (50 + u0)) C I eX12_copy_59 (hN 1 (by decide)) hC3.slot u0 hu0e (by omega) (by decide) (eRf_at (by omega)) ?_
        refine v_iload_n C eX12_copy_60 rfl 3 rfl ?_
        refine n_bald C I eX12_copy_61 (hN ((50 + u0)) (rLn_74 (Nat.lt_of_lt_of_eq (by decide) hru0.symm))) (hC3.b ((50 + u0)) 65536 hru0 (by decide)) j (rfl : nI j = nI j) (by omega) (by decide) ?_
        refine n_bast C I eX12_copy_62 (hN ((50 + u1)) (rLn_74 (Nat.lt_of_lt_of_eq (by decide) hru1.symm))) (hC3.b ((50 + u1)) 65536 hru1 (by decide)) j (rfl : nI j = nI j) (by omega) (by decide) ?_
        refine v_iinc (lv' := [(0, .ref (ad 49)), (1, .int p0), (2, .int p1), (3, .int (nI (j + 1)))]) C eX12_copy_63 3 rfl (ix_inc _) (by decide) [1, 2, 3, 0] rfl ?_
        refine v_goto (tgt := 37) C eX12_copy_66 (by decide) ?_
        have hnj : vp_nar .byte (bt σ (50 + u0) j) = bt σ (50 + u0) j := by have := nrw_sl.mp (show nrw (sl (bt σ (50 + u0)) 0 (S u0).length) from by rw [hSu0.2.2.1]; exact hSu0.2.2.2) j (by omega); rwa [Nat.zero_add] at this
        have hnew : upd (bt τ (50 + u1)) j (vp_nar .byte (bt τ (50 + u0) j)) = wr (bt σ (50 + u1)) 0 (sl (bt σ (50 + u0)) 0 (j + 1)) := by rw [hf3, hnj, hv3, sl_s, wr_snoc, sl_len, Nat.zero_add]
        refine ih _ ⟨hC3.up hru1 (by decide) _, fun k hk => (n_ne hk).trans (hk3 k hk), ?_, ?_⟩
        · rw [bt_B (G := G) (n := 65536) n_self]; exact hnew
        · by_cases q : u0 = u1
          · subst q; rw [bt_B (G := G) (n := 65536) n_self, hnew]; exact wr_sl
          · rw [bt_same (n_ne (show 50 + u0 ≠ 50 + u1 by omega))]; exact hf3
    · refine v_natT (show (if (0 : Int32) ≤ p1 ∧ p1 ≤ (7 : Int32) then (1 : Int32) else 0) = 0 from if_neg c2) ?_
      refine v_if_eq (tgt := 25) C eX12_copy_18 (by decide) (fun _ => ?_) (fun h => absurd rfl h)
      refine v_iconst (v := (0 : Int32)) C eX12_copy_25 (by decide) ?_
      refine v_iconst (v := (1 : Int32)) C eX12_copy_26 (by decide) ?_
      refine n_callV (As := [.int ((0 : Int32)), .int ((1 : Int32))]) (rest := []) C I mX12_130 (rs_good0 I hN hC 1) (hN 49 (by decide)) hC.obj rfl (by decide) (by decide) ⟨by decide, by decide⟩ rfl (vi_k (vi_k rfl)) (Nat.le_of_ble_eq_true rfl) eX12_copy_27 (fun r σ1 hp => ?_)
      obtain ⟨rfl, hC1, hk1⟩ := hp
      rw [show sp_copy S T p0 p1 = (1, 0, S, T) from if_neg (fun q => c2 q.2)]
      refine v_if_ne (tgt := 35) C eX12_copy_30 (by decide) (fun h => absurd (by decide) h) (fun _ => ?_)
      refine v_iconst (v := (0 : Int32)) C eX12_copy_33 (by decide) ?_
      exact n_iret C rfl eX12_copy_34 ⟨rfl, ⟨upd _ 4 1, hC1, rfl, hd.keep (fun k hk => hk1 k (by omega))⟩, fun k hk => hk1 k (by omega)⟩
  · refine v_natT (show (if (0 : Int32) ≤ p0 ∧ p0 ≤ (7 : Int32) then (1 : Int32) else 0) = 0 from if_neg c1) ?_
    refine v_if_eq (tgt := 25) C eX12_copy_8 (by decide) (fun _ => ?_) (fun h => absurd rfl h)
    refine v_iconst (v := (0 : Int32)) C eX12_copy_25 (by decide) ?_
    refine v_iconst (v := (1 : Int32)) C eX12_copy_26 (by decide) ?_
    refine n_callV (As := [.int ((0 : Int32)), .int ((1 : Int32))]) (rest := []) C I mX12_130 (rs_good0 I hN hC 1) (hN 49 (by decide)) hC.obj rfl (by decide) (by decide) ⟨by decide, by decide⟩ rfl (vi_k (vi_k rfl)) (Nat.le_of_ble_eq_true rfl) eX12_copy_27 (fun r σ1 hp => ?_)
    obtain ⟨rfl, hC1, hk1⟩ := hp
    rw [show sp_copy S T p0 p1 = (1, 0, S, T) from if_neg (fun q => c1 q.1)]
    refine v_if_ne (tgt := 35) C eX12_copy_30 (by decide) (fun h => absurd (by decide) h) (fun _ => ?_)
    refine v_iconst (v := (0 : Int32)) C eX12_copy_33 (by decide) ?_
    exact n_iret C rfl eX12_copy_34 ⟨rfl, ⟨upd _ 4 1, hC1, rfl, hd.keep (fun k hk => hk1 k (by omega))⟩, fun k hk => hk1 k (by omega)⟩

set_option maxRecDepth 100000 in
set_option maxHeartbeats 4000000 in
theorem ra_resize (I : nI1 ad N) (hN : ∀ k, k < 74 → k < N) {S : sT} {T : List Int32} {cd0 : Int32} (hA : RA G ad θ S T cd0 σ) (p0 p1 : Int32) : nOk G B l ad N yX12_resize cX12_resize 5 (some .int) 1 0 0 [.ref (ad 49), .int p0, .int p1] σ (fun r σ' => r = some (.int (sp_resize S T p0 p1).2.1) ∧ RA G ad θ ((sp_resize S T p0 p1).2.2.1) ((sp_resize S T p0 p1).2.2.2) ((sp_resize S T p0 p1).1) σ' ∧ (∀ k, 74 ≤ k → σ' k = σ k)) := by
  refine vOk.of (by decide +kernel) (Nat.le_of_ble_eq_true rfl) ?_
  intro p e s m args below meth c C
  refine v_eq (lv' := [(0, .ref (ad 49)), (1, .int p0), (2, .int p1)]) rfl rfl rfl ?_
  obtain ⟨x, hC, hcd, hd⟩ := hA
  refine v_aload_n C eX12_resize_0 rfl 0 rfl ?_
  refine v_iload_n C eX12_resize_1 rfl 1 rfl ?_
  refine v_iconst (v := (0 : Int32)) C eX12_resize_2 (by decide) ?_
  refine v_bipush (v := (7 : Int32)) C eX12_resize_3 (by decide) ?_
  refine n_callS (av := [.int p0, .int ((0 : Int32)), .int ((7 : Int32))]) (rest := [.ref (ad 49)]) C mX12_138 (c_in p0 ((0 : Int32)) ((7 : Int32))) rfl (by decide) (by decide) ⟨by decide, by decide⟩ rfl (vi_k (vi_k (vi_k rfl))) (Nat.le_of_ble_eq_true rfl) eX12_resize_5 (fun r ρ hp => ?_)
  obtain ⟨rfl, hρ⟩ := hp
  rw [hρ]
  clear hρ ρ
  by_cases c1 : 0 ≤ p0 ∧ p0 ≤ 7
  · refine v_natT (show (if (0 : Int32) ≤ p0 ∧ p0 ≤ (7 : Int32) then (1 : Int32) else 0) = 1 from if_pos c1) ?_
    refine v_if_eq (tgt := 25) C eX12_resize_8 (by decide) (fun h => absurd h (by decide)) (fun _ => ?_)
    refine v_iload_n C eX12_resize_11 rfl 2 rfl ?_
    refine v_iconst (v := (0 : Int32)) C eX12_resize_12 (by decide) ?_
    refine v_ldc (v := (65536 : Int32)) C eX12_resize_13 vw_1097 ?_
    refine n_callS (av := [.int p1, .int ((0 : Int32)), .int ((65536 : Int32))]) (rest := [.ref (ad 49)]) C mX12_138 (c_in p1 ((0 : Int32)) ((65536 : Int32))) rfl (by decide) (by decide) ⟨by decide, by decide⟩ rfl (vi_k (vi_k (vi_k rfl))) (Nat.le_of_ble_eq_true rfl) eX12_resize_15 (fun r ρ hp => ?_)
    obtain ⟨rfl, hρ⟩ := hp
    rw [hρ]
    clear hρ ρ
    by_cases c2 : 0 ≤ p1 ∧ p1 ≤ (65536 : Int32)
    · refine v_natT (show (if (0 : Int32) ≤ p1 ∧ p1 ≤ (65536 : Int32) then (1 : Int32) else 0) = 1 from if_pos c2) ?_
      refine v_if_eq (tgt := 25) C eX12_resize_18 (by decide) (fun h => absurd h (by decide)) (fun _ => ?_)
      refine v_iconst (v := (1 : Int32)) C eX12_resize_21 (by decide) ?_
      refine v_goto (tgt := 26) C eX12_resize_22 (by decide) ?_
      refine v_iconst (v := (1 : Int32)) C eX12_resize_26 (by decide) ?_
      refine n_callV (As := [.int ((1 : Int32)), .int ((1 : Int32))]) (rest := []) C I mX12_130 (rs_good1 I hN hC 1) (hN 49 (by decide)) hC.obj rfl (by decide) (by decide) ⟨by decide, by decide⟩ rfl (vi_k (vi_k rfl)) (Nat.le_of_ble_eq_true rfl) eX12_resize_27 (fun r σ1 hp => ?_)
      obtain ⟨rfl, hC1, hk1⟩ := hp
      refine v_if_ne (tgt := 35) C eX12_resize_30 (by decide) (fun _ => ?_) (fun h => absurd h (by decide))
      rw [show sp_resize S T p0 p1 = (0, nI (S (ixN p0)).length, seti S (ixN p0) (rsz (S (ixN p0)) (ixN p1)), T) from if_pos ⟨c1, c2⟩]
      obtain ⟨hu0, hu0e⟩ := ixN_of (n := 7) rfl c1
      generalize hgu0 : ixN p0 = u0 at hu0 hu0e
      have hru0 : rLn (50 + u0) = 65536 := rLn_slot _ (by omega)
      have hSu0 := hd.2 u0 (by omega)
      obtain ⟨hn, hne⟩ := ixN_of (n := 65536) rfl c2
      generalize hgn : ixN p1 = n1 at hn hne
      have kk : ∀ k, ¬ (k = 49) → σ1 k = σ k := hk1
      have hl65 := hSu0.2.1
      refine v_aload_n C eX12_resize_35 rfl 0 rfl ?_
      refine n_get C I fX12_19_X12 eX12_resize_36 (hN 49 (by decide)) hC1.obj rfl ?_
      refine v_iload_n C eX12_resize_39 rfl 1 rfl ?_
      refine n_iald C I eX12_resize_40 (hN 2 (by decide)) hC1.len u0 hu0e (by omega) (by decide) ?_
      refine v_natT (show bt σ1 2 u0 = nI ((S u0).length + 0) from by rw [bt_same (kk 2 (by decide))]; exact hSu0.1) ?_
      refine v_istore_n (lv' := [(0, .ref (ad 49)), (1, .int p0), (2, .int p1), (3, .int (nI ((S u0).length + 0)))]) C eX12_resize_41 rfl (by decide) [1, 2, 3, 0] rfl ?_
      refine v_iload_n C eX12_resize_42 rfl 3 rfl ?_
      refine v_istore (lv' := [(0, .ref (ad 49)), (1, .int p0), (2, .int p1), (3, .int (nI ((S u0).length + 0))), (4, .int (nI ((S u0).length + 0)))]) C eX12_resize_43 (by decide) [1, 2, 3, 4, 0] rfl ?_
      refine v_forP (fun j τ => RS G ad θ (upd x 4 0) τ ∧ (∀ k, ¬ (k = 50 + u0) → τ k = σ1 k) ∧ bt τ (50 + u0) = wr (bt σ (50 + u0)) (S u0).length (List.replicate j 0)) (fun j => [(0, .ref (ad 49)), (1, .int p0), (2, .int p1), (3, .int (nI ((S u0).length + 0))), (4, .int (nI ((S u0).length + j)))]) (n1 - (S u0).length) ?_ ?_ _ ⟨hC1, fun k _ => rfl, (bt_same (kk (50 + u0) (by omega))).trans wr_nil.symm⟩
      · intro τ hI
        obtain ⟨hC3, hk3, hv3⟩ := hI
        refine v_iload C eX12_resize_45 4 rfl ?_
        refine v_iload_n C eX12_resize_47 rfl 2 rfl ?_
        refine v_icmp_ge (tgt := 67) C eX12_resize_48 (by decide) (fun _ => ?_) (fun h => absurd (ix_le (a := n1) (b := (S u0).length + (n1 - (S u0).length)) hne (rfl : nI ((S u0).length + (n1 - (S u0).length)) = nI ((S u0).length + (n1 - (S u0).length))) (by omega) (by omega) (by omega)) h)
        refine v_aload_n C eX12_resize_67 rfl 0 rfl ?_
        refine n_get C I fX12_19_X12 eX12_resize_68 (hN 49 (by decide)) hC3.obj rfl ?_
        refine v_iload_n C eX12_resize_71 rfl 1 rfl ?_
        refine v_iload_n C eX12_resize_72 rfl 2 rfl ?_
        refine n_iast C I eX12_resize_73 (hN 2 (by decide)) hC3.len u0 hu0e (by omega) (by decide) ?_
        refine v_iload_n C eX12_resize_74 rfl 3 rfl ?_
        refine n_iret C rfl eX12_resize_75 ⟨rfl, ⟨upd x 4 0, hC3.upI (Or.inl ⟨rfl, rfl⟩) _, rfl, ?_⟩, fun k hk => (n_ne (by omega)).trans ((hk3 k (by omega)).trans (kk k (by omega)))⟩
        refine hd.set (L := rsz (S u0) n1) (fun k hk => (n_ne (by omega)).trans ((hk3 k (by omega)).trans (kk k (by omega)))) ?_ (by rw [rsz_len]; exact hn) ?_ (nrw_rsz hSu0.2.2.2)
        · rw [bt_I (G := G) (n := 8) n_self, rsz_len, hne, bt_same (hk3 2 (by omega)), bt_same (kk 2 (by decide))]
        · rw [bt_same (k := 50 + u0) (n_ne (by omega)), hv3, rsz_len]; exact rsz_sl hSu0.2.2.1
      · intro j hj ih τ hI
        obtain ⟨hC3, hk3, hv3⟩ := hI
        refine v_iload C eX12_resize_45 4 rfl ?_
        refine v_iload_n C eX12_resize_47 rfl 2 rfl ?_
        refine v_icmp_ge (tgt := 67) C eX12_resize_48 (by decide) (fun h => absurd h (ix_nle (a := n1) (b := (S u0).length + j) hne (rfl : nI ((S u0).length + j) = nI ((S u0).length + j)) (by omega) (by omega) (by omega))) (fun _ => ?_)
        refine v_aload_n C eX12_resize_51 rfl 0 rfl ?_
        refine n_get C I fX12_16_X12 eX12_resize_52 (hN 49 (by decide)) hC3.obj rfl ?_
        refine v_iload_n C eX12_resize_55 rfl 1 rfl ?_
        refine n_aald (b := ad (50 + u0)) C I eX12_resize_56 (hN 1 (by decide)) hC3.slot u0 hu0e (by omega) (by decide) (eRf_at (by omega)) ?_
        refine v_iload C eX12_resize_57 4 rfl ?_
        refine v_iconst (v := (0 : Int32)) C eX12_resize_59 (by decide) ?_
        refine n_bast C I eX12_resize_60 (hN ((50 + u0)) (rLn_74 (Nat.lt_of_lt_of_eq (by decide) hru0.symm))) (hC3.b ((50 + u0)) 65536 hru0 (by decide)) ((S u0).length + j) (rfl : nI ((S u0).length + j) = nI ((S u0).length + j)) (by omega) (by decide) ?_
        refine v_iinc (lv' := [(0, .ref (ad 49)), (1, .int p0), (2, .int p1), (3, .int (nI ((S u0).length + 0))), (4, .int (nI ((S u0).length + j + 1)))]) C eX12_resize_61 4 rfl (ix_inc _) (by decide) [1, 2, 3, 4, 0] rfl ?_
        refine v_goto (tgt := 45) C eX12_resize_64 (by decide) ?_
        refine ih _ ⟨hC3.up hru0 (by decide) _, fun k hk => (n_ne hk).trans (hk3 k hk), ?_⟩
        rw [bt_B (G := G) (n := 65536) n_self, hv3, List.replicate_succ', wr_snoc, List.length_replicate, nar_0]
    · refine v_natT (show (if (0 : Int32) ≤ p1 ∧ p1 ≤ (65536 : Int32) then (1 : Int32) else 0) = 0 from if_neg c2) ?_
      refine v_if_eq (tgt := 25) C eX12_resize_18 (by decide) (fun _ => ?_) (fun h => absurd rfl h)
      refine v_iconst (v := (0 : Int32)) C eX12_resize_25 (by decide) ?_
      refine v_iconst (v := (1 : Int32)) C eX12_resize_26 (by decide) ?_
      refine n_callV (As := [.int ((0 : Int32)), .int ((1 : Int32))]) (rest := []) C I mX12_130 (rs_good0 I hN hC 1) (hN 49 (by decide)) hC.obj rfl (by decide) (by decide) ⟨by decide, by decide⟩ rfl (vi_k (vi_k rfl)) (Nat.le_of_ble_eq_true rfl) eX12_resize_27 (fun r σ1 hp => ?_)
      obtain ⟨rfl, hC1, hk1⟩ := hp
      rw [show sp_resize S T p0 p1 = (1, 0, S, T) from if_neg (fun q => c2 q.2)]
      refine v_if_ne (tgt := 35) C eX12_resize_30 (by decide) (fun h => absurd (by decide) h) (fun _ => ?_)
      refine v_iconst (v := (0 : Int32)) C eX12_resize_33 (by decide) ?_
      exact n_iret C rfl eX12_resize_34 ⟨rfl, ⟨upd _ 4 1, hC1, rfl, hd.keep (fun k hk => hk1 k (by omega))⟩, fun k hk => hk1 k (by omega)⟩
  · refine v_natT (show (if (0 : Int32) ≤ p0 ∧ p0 ≤ (7 : Int32) then (1 : Int32) else 0) = 0 from if_neg c1) ?_
    refine v_if_eq (tgt := 25) C eX12_resize_8 (by decide) (fun _ => ?_) (fun h => absurd rfl h)
    refine v_iconst (v := (0 : Int32)) C eX12_resize_25 (by decide) ?_
    refine v_iconst (v := (1 : Int32)) C eX12_resize_26 (by decide) ?_
    refine n_callV (As := [.int ((0 : Int32)), .int ((1 : Int32))]) (rest := []) C I mX12_130 (rs_good0 I hN hC 1) (hN 49 (by decide)) hC.obj rfl (by decide) (by decide) ⟨by decide, by decide⟩ rfl (vi_k (vi_k rfl)) (Nat.le_of_ble_eq_true rfl) eX12_resize_27 (fun r σ1 hp => ?_)
    obtain ⟨rfl, hC1, hk1⟩ := hp
    rw [show sp_resize S T p0 p1 = (1, 0, S, T) from if_neg (fun q => c1 q.1)]
    refine v_if_ne (tgt := 35) C eX12_resize_30 (by decide) (fun h => absurd (by decide) h) (fun _ => ?_)
    refine v_iconst (v := (0 : Int32)) C eX12_resize_33 (by decide) ?_
    exact n_iret C rfl eX12_resize_34 ⟨rfl, ⟨upd _ 4 1, hC1, rfl, hd.keep (fun k hk => hk1 k (by omega))⟩, fun k hk => hk1 k (by omega)⟩

theorem nrw_alt {b v : Int32} : vp_nar .byte (altB b v) = altB b v := pk_vb _
theorem set_sl {f : Nat → Int32} {L : List Int32} {i : Nat} {v : Int32} (hL : sl f 0 L.length = L) : sl (upd f i v) 0 L.length = L.set i v := by
  apply List.ext_getElem
  · rw [sl_len, List.length_set]
  · intro k h1 h2
    rw [sl_len] at h1
    have e : (sl f 0 L.length)[k]'(by rw [sl_len]; exact h1) = f k := by simp [sl]
    have e2 : L[k] = f k := by rw [← e]; congr 1; exact hL.symm
    rw [List.getElem_set]
    by_cases q : i = k
    · subst q
      simp [sl, upd]
    · rw [if_neg q, e2]
      have : k ≠ i := fun h => q h.symm
      simp [sl, upd, this]
theorem nrw_set {L : List Int32} {i : Nat} {v : Int32} (h : nrw L) (hv : vp_nar .byte v = v) : nrw (L.set i v) := fun u hu => by
  rcases List.mem_or_eq_of_mem_set hu with q | q
  · exact h u q
  · rw [q]; exact hv
theorem len1 {i : Int32} {n : Nat} (hn : n ≤ 65536) (h : 0 ≤ i ∧ i ≤ nI n - 1) : ixN i < n ∧ i = nI (ixN i) := by
  by_cases q : n = 0
  · subst q
    exact absurd (Int32.le_trans h.1 h.2) (by decide)
  · have e : nI n - 1 = nI (n - 1) := pk_sub (a := n) (b := 1) (by omega)
    rw [e] at h
    obtain ⟨h1, h2⟩ := ixN_of (n := n - 1) (nI_toInt (by omega)) h
    exact ⟨by omega, h2⟩
set_option maxRecDepth 100000 in
set_option maxHeartbeats 4000000 in
theorem ra_alter (I : nI1 ad N) (hN : ∀ k, k < 74 → k < N) {S : sT} {T : List Int32} {cd0 : Int32} (hA : RA G ad θ S T cd0 σ) (p0 p1 p2 : Int32) : nOk G B l ad N yX12_alter cX12_alter 4 (some .int) 1 0 0 [.ref (ad 49), .int p0, .int p1, .int p2] σ (fun r σ' => r = some (.int (sp_alter S T p0 p1 p2).2.1) ∧ RA G ad θ ((sp_alter S T p0 p1 p2).2.2.1) ((sp_alter S T p0 p1 p2).2.2.2) ((sp_alter S T p0 p1 p2).1) σ' ∧ (∀ k, 74 ≤ k → σ' k = σ k)) := by
  refine vOk.of (by decide +kernel) (Nat.le_of_ble_eq_true rfl) ?_
  intro p e s m args below meth c C
  refine v_eq (lv' := [(0, .ref (ad 49)), (1, .int p0), (2, .int p1), (3, .int p2)]) rfl rfl rfl ?_
  obtain ⟨x, hC, hcd, hd⟩ := hA
  refine v_aload_n C eX12_alter_0 rfl 0 rfl ?_
  refine v_iload_n C eX12_alter_1 rfl 1 rfl ?_
  refine v_iconst (v := (0 : Int32)) C eX12_alter_2 (by decide) ?_
  refine v_bipush (v := (7 : Int32)) C eX12_alter_3 (by decide) ?_
  refine n_callS (av := [.int p0, .int ((0 : Int32)), .int ((7 : Int32))]) (rest := [.ref (ad 49)]) C mX12_138 (c_in p0 ((0 : Int32)) ((7 : Int32))) rfl (by decide) (by decide) ⟨by decide, by decide⟩ rfl (vi_k (vi_k (vi_k rfl))) (Nat.le_of_ble_eq_true rfl) eX12_alter_5 (fun r ρ hp => ?_)
  obtain ⟨rfl, hρ⟩ := hp
  rw [hρ]
  clear hρ ρ
  by_cases c1 : 0 ≤ p0 ∧ p0 ≤ 7
  · refine v_natT (show (if (0 : Int32) ≤ p0 ∧ p0 ≤ (7 : Int32) then (1 : Int32) else 0) = 1 from if_pos c1) ?_
    refine v_if_eq (tgt := 26) C eX12_alter_8 (by decide) (fun h => absurd h (by decide)) (fun _ => ?_)
    refine v_iload_n C eX12_alter_11 rfl 3 rfl ?_
    refine v_iconst (v := (0 : Int32)) C eX12_alter_12 (by decide) ?_
    refine v_sipush (v := (255 : Int32)) C eX12_alter_13 (by decide) ?_
    refine n_callS (av := [.int p2, .int ((0 : Int32)), .int ((255 : Int32))]) (rest := [.ref (ad 49)]) C mX12_138 (c_in p2 ((0 : Int32)) ((255 : Int32))) rfl (by decide) (by decide) ⟨by decide, by decide⟩ rfl (vi_k (vi_k (vi_k rfl))) (Nat.le_of_ble_eq_true rfl) eX12_alter_16 (fun r ρ hp => ?_)
    obtain ⟨rfl, hρ⟩ := hp
    rw [hρ]
    clear hρ ρ
    by_cases c2 : 0 ≤ p2 ∧ p2 ≤ (255 : Int32)
    · refine v_natT (show (if (0 : Int32) ≤ p2 ∧ p2 ≤ (255 : Int32) then (1 : Int32) else 0) = 1 from if_pos c2) ?_
      refine v_if_eq (tgt := 26) C eX12_alter_19 (by decide) (fun h => absurd h (by decide)) (fun _ => ?_)
      refine v_iconst (v := (1 : Int32)) C eX12_alter_22 (by decide) ?_
      refine v_goto (tgt := 27) C eX12_alter_23 (by decide) ?_
      refine v_iconst (v := (1 : Int32)) C eX12_alter_27 (by decide) ?_
      refine n_callV (As := [.int ((1 : Int32)), .int ((1 : Int32))]) (rest := []) C I mX12_130 (rs_good1 I hN hC 1) (hN 49 (by decide)) hC.obj rfl (by decide) (by decide) ⟨by decide, by decide⟩ rfl (vi_k (vi_k rfl)) (Nat.le_of_ble_eq_true rfl) eX12_alter_28 (fun r σ1 hp => ?_)
      obtain ⟨rfl, hC1, hk1⟩ := hp
      refine v_if_eq (tgt := 55) C eX12_alter_31 (by decide) (fun h => absurd h (by decide)) (fun _ => ?_)
      rw [show sp_alter S T p0 p1 p2 = (if 0 ≤ p1 ∧ p1 ≤ nI (S (ixN p0)).length - 1 then (0, altB ((S (ixN p0)).getD (ixN p1) 0) p2 &&& 255, seti S (ixN p0) ((S (ixN p0)).set (ixN p1) (altB ((S (ixN p0)).getD (ixN p1) 0) p2)), T) else (2, 0, S, T)) from if_pos ⟨c1, c2⟩]
      obtain ⟨hu0, hu0e⟩ := ixN_of (n := 7) rfl c1
      generalize hgu0 : ixN p0 = u0 at hu0 hu0e
      have hru0 : rLn (50 + u0) = 65536 := rLn_slot _ (by omega)
      have hSu0 := hd.2 u0 (by omega)
      have kk : ∀ k, ¬ (k = 49) → σ1 k = σ k := hk1
      have hl65 := hSu0.2.1
      refine v_aload_n C eX12_alter_34 rfl 0 rfl ?_
      refine v_iload_n C eX12_alter_35 rfl 2 rfl ?_
      refine v_iconst (v := (0 : Int32)) C eX12_alter_36 (by decide) ?_
      refine v_aload_n C eX12_alter_37 rfl 0 rfl ?_
      refine n_get C I fX12_19_X12 eX12_alter_38 (hN 49 (by decide)) hC1.obj rfl ?_
      refine v_iload_n C eX12_alter_41 rfl 1 rfl ?_
      refine n_iald C I eX12_alter_42 (hN 2 (by decide)) hC1.len u0 hu0e (by omega) (by decide) ?_
      refine v_natT (show bt σ1 2 u0 = nI (S u0).length from by rw [bt_same (kk 2 (by decide))]; exact hSu0.1) ?_
      refine v_iconst (v := (1 : Int32)) C eX12_alter_43 (by decide) ?_
      refine v_isub C eX12_alter_44 ?_
      refine n_callS (av := [.int p1, .int ((0 : Int32)), .int ((nI (S u0).length) - ((1 : Int32)))]) (rest := [.ref (ad 49)]) C mX12_138 (c_in p1 ((0 : Int32)) ((nI (S u0).length) - ((1 : Int32)))) rfl (by decide) (by decide) ⟨by decide, by decide⟩ rfl (vi_k (vi_k (vi_k rfl))) (Nat.le_of_ble_eq_true rfl) eX12_alter_45 (fun r ρ hp => ?_)
      obtain ⟨rfl, hρ⟩ := hp
      rw [hρ]
      clear hρ ρ
      by_cases c3 : 0 ≤ p1 ∧ p1 ≤ (nI (S u0).length) - (1 : Int32)
      · rw [if_pos c3]
        refine v_natT (show (if (0 : Int32) ≤ p1 ∧ p1 ≤ (nI (S u0).length) - ((1 : Int32)) then (1 : Int32) else 0) = 1 from if_pos c3) ?_
        refine v_iconst (v := (2 : Int32)) C eX12_alter_48 (by decide) ?_
        refine n_callV (As := [.int ((1 : Int32)), .int ((2 : Int32))]) (rest := []) C I mX12_130 (rs_good1 I hN hC1 2) (hN 49 (by decide)) hC1.obj rfl (by decide) (by decide) ⟨by decide, by decide⟩ rfl (vi_k (vi_k rfl)) (Nat.le_of_ble_eq_true rfl) eX12_alter_49 (fun r σ2 hp => ?_)
        obtain ⟨rfl, hC2, hk2⟩ := hp
        refine v_if_ne (tgt := 57) C eX12_alter_52 (by decide) (fun _ => ?_) (fun h => absurd h (by decide))
        obtain ⟨hi, hie⟩ := len1 hl65 c3
        generalize hgi : ixN p1 = i1 at hi hie
        have k2 : ∀ k, ¬ (k = 49) → σ2 k = σ k := fun k hk => (hk2 k hk).trans (hk1 k hk)
        have hb : bt σ2 (50 + u0) = bt σ (50 + u0) := bt_same (k2 (50 + u0) (by omega))
        have hg : (S u0).getD i1 0 = bt σ (50 + u0) i1 := (congrArg (fun L : List Int32 => L.getD i1 0) hSu0.2.2.1.symm).trans ((sl_at hi).trans (congrArg _ (Nat.zero_add i1)))
        refine v_aload_n C eX12_alter_57 rfl 0 rfl ?_
        refine n_get C I fX12_16_X12 eX12_alter_58 (hN 49 (by decide)) hC2.obj rfl ?_
        refine v_iload_n C eX12_alter_61 rfl 1 rfl ?_
        refine n_aald (b := ad (50 + u0)) C I eX12_alter_62 (hN 1 (by decide)) hC2.slot u0 hu0e (by omega) (by decide) (eRf_at (by omega)) ?_
        refine v_iload_n C eX12_alter_63 rfl 2 rfl ?_
        refine v_dup2_11 C eX12_alter_64 rfl rfl ?_
        refine n_bald C I eX12_alter_65 (hN ((50 + u0)) (rLn_74 (Nat.lt_of_lt_of_eq (by decide) hru0.symm))) (hC2.b ((50 + u0)) 65536 hru0 (by decide)) i1 hie (by omega) (by decide) ?_
        refine v_iload_n C eX12_alter_66 rfl 3 rfl ?_
        refine v_i2b C eX12_alter_67 ?_
        refine v_ixor C eX12_alter_68 ?_
        refine v_i2b C eX12_alter_69 ?_
        refine v_natT (show (((bt σ2 ((50 + u0))) i1) ^^^ p2.toInt8.toInt32).toInt8.toInt32 = altB ((S u0).getD i1 0) p2 from by rw [hg, hb]; rfl) ?_
        refine n_bast C I eX12_alter_70 (hN ((50 + u0)) (rLn_74 (Nat.lt_of_lt_of_eq (by decide) hru0.symm))) (hC2.b ((50 + u0)) 65536 hru0 (by decide)) i1 hie (by omega) (by decide) ?_
        refine v_pic (fun σ3 hσ3 => ?_)
        have hC3 : RS G ad θ (upd (upd x 4 0) 4 0) σ3 := by rw [hσ3]; exact hC2.up hru0 (by decide) _
        have hk3 : ∀ k, ¬ (k = 50 + u0) → σ3 k = σ2 k := fun k hk => by rw [hσ3]; exact n_ne hk
        have hv3 : bt σ3 (50 + u0) = upd (bt σ (50 + u0)) i1 (altB ((S u0).getD i1 0) p2) := by rw [hσ3, bt_B (G := G) (n := 65536) n_self, hb, nrw_alt]
        refine v_aload_n C eX12_alter_71 rfl 0 rfl ?_
        refine n_get C I fX12_16_X12 eX12_alter_72 (hN 49 (by decide)) hC3.obj rfl ?_
        refine v_iload_n C eX12_alter_75 rfl 1 rfl ?_
        refine n_aald (b := ad (50 + u0)) C I eX12_alter_76 (hN 1 (by decide)) hC3.slot u0 hu0e (by omega) (by decide) (eRf_at (by omega)) ?_
        refine v_iload_n C eX12_alter_77 rfl 2 rfl ?_
        refine n_bald C I eX12_alter_78 (hN ((50 + u0)) (rLn_74 (Nat.lt_of_lt_of_eq (by decide) hru0.symm))) (hC3.b ((50 + u0)) 65536 hru0 (by decide)) i1 hie (by omega) (by decide) ?_
        refine v_natT (show bt σ3 (50 + u0) i1 = altB ((S u0).getD i1 0) p2 from by rw [hv3, pk_us]) ?_
        refine v_sipush (v := (255 : Int32)) C eX12_alter_79 (by decide) ?_
        refine v_iand C eX12_alter_82 ?_
        refine n_iret C rfl eX12_alter_83 ⟨rfl, ⟨upd (upd x 4 0) 4 0, hC3, rfl, ?_⟩, fun k hk => (hk3 k (by omega)).trans (k2 k (by omega))⟩
        refine hd.set (L := (S u0).set i1 (altB ((S u0).getD i1 0) p2)) (fun k hk => (hk3 k (by omega)).trans (k2 k (by omega))) ?_ (by rw [List.length_set]; exact hl65) ?_ (nrw_set hSu0.2.2.2 nrw_alt)
        · rw [List.length_set, bt_same (hk3 2 (by omega)), bt_same (k2 2 (by decide))]; funext q; by_cases e : q = u0
          · subst e; rw [pk_us]; exact hSu0.1
          · rw [pk_un e]
        · rw [List.length_set, hv3]; exact set_sl hSu0.2.2.1
      · rw [if_neg c3]
        refine v_natT (show (if (0 : Int32) ≤ p1 ∧ p1 ≤ (nI (S u0).length) - ((1 : Int32)) then (1 : Int32) else 0) = 0 from if_neg c3) ?_
        refine v_iconst (v := (2 : Int32)) C eX12_alter_48 (by decide) ?_
        refine n_callV (As := [.int ((0 : Int32)), .int ((2 : Int32))]) (rest := []) C I mX12_130 (rs_good0 I hN hC1 2) (hN 49 (by decide)) hC1.obj rfl (by decide) (by decide) ⟨by decide, by decide⟩ rfl (vi_k (vi_k rfl)) (Nat.le_of_ble_eq_true rfl) eX12_alter_49 (fun r σ2 hp => ?_)
        obtain ⟨rfl, hC2, hk2⟩ := hp
        refine v_if_ne (tgt := 57) C eX12_alter_52 (by decide) (fun h => absurd (by decide) h) (fun _ => ?_)
        refine v_iconst (v := (0 : Int32)) C eX12_alter_55 (by decide) ?_
        exact n_iret C rfl eX12_alter_56 ⟨rfl, ⟨upd _ 4 2, hC2, rfl, hd.keep (fun k hk => (hk2 k (by omega)).trans (hk1 k (by omega)))⟩, fun k hk => (hk2 k (by omega)).trans (hk1 k (by omega))⟩
    · refine v_natT (show (if (0 : Int32) ≤ p2 ∧ p2 ≤ (255 : Int32) then (1 : Int32) else 0) = 0 from if_neg c2) ?_
      refine v_if_eq (tgt := 26) C eX12_alter_19 (by decide) (fun _ => ?_) (fun h => absurd rfl h)
      refine v_iconst (v := (0 : Int32)) C eX12_alter_26 (by decide) ?_
      refine v_iconst (v := (1 : Int32)) C eX12_alter_27 (by decide) ?_
      refine n_callV (As := [.int ((0 : Int32)), .int ((1 : Int32))]) (rest := []) C I mX12_130 (rs_good0 I hN hC 1) (hN 49 (by decide)) hC.obj rfl (by decide) (by decide) ⟨by decide, by decide⟩ rfl (vi_k (vi_k rfl)) (Nat.le_of_ble_eq_true rfl) eX12_alter_28 (fun r σ1 hp => ?_)
      obtain ⟨rfl, hC1, hk1⟩ := hp
      rw [show sp_alter S T p0 p1 p2 = (1, 0, S, T) from if_neg (fun q => c2 q.2)]
      refine v_if_eq (tgt := 55) C eX12_alter_31 (by decide) (fun _ => ?_) (fun h => absurd rfl h)
      refine v_iconst (v := (0 : Int32)) C eX12_alter_55 (by decide) ?_
      exact n_iret C rfl eX12_alter_56 ⟨rfl, ⟨upd _ 4 1, hC1, rfl, hd.keep (fun k hk => hk1 k (by omega))⟩, fun k hk => hk1 k (by omega)⟩
  · refine v_natT (show (if (0 : Int32) ≤ p0 ∧ p0 ≤ (7 : Int32) then (1 : Int32) else 0) = 0 from if_neg c1) ?_
    refine v_if_eq (tgt := 26) C eX12_alter_8 (by decide) (fun _ => ?_) (fun h => absurd rfl h)
    refine v_iconst (v := (0 : Int32)) C eX12_alter_26 (by decide) ?_
    refine v_iconst (v := (1 : Int32)) C eX12_alter_27 (by decide) ?_
    refine n_callV (As := [.int ((0 : Int32)), .int ((1 : Int32))]) (rest := []) C I mX12_130 (rs_good0 I hN hC 1) (hN 49 (by decide)) hC.obj rfl (by decide) (by decide) ⟨by decide, by decide⟩ rfl (vi_k (vi_k rfl)) (Nat.le_of_ble_eq_true rfl) eX12_alter_28 (fun r σ1 hp => ?_)
    obtain ⟨rfl, hC1, hk1⟩ := hp
    rw [show sp_alter S T p0 p1 p2 = (1, 0, S, T) from if_neg (fun q => c1 q.1)]
    refine v_if_eq (tgt := 55) C eX12_alter_31 (by decide) (fun _ => ?_) (fun h => absurd rfl h)
    refine v_iconst (v := (0 : Int32)) C eX12_alter_55 (by decide) ?_
    exact n_iret C rfl eX12_alter_56 ⟨rfl, ⟨upd _ 4 1, hC1, rfl, hd.keep (fun k hk => hk1 k (by omega))⟩, fun k hk => hk1 k (by omega)⟩

set_option maxRecDepth 100000 in
set_option maxHeartbeats 4000000 in
theorem ra_same (I : nI1 ad N) (hN : ∀ k, k < 74 → k < N) {S : sT} {T : List Int32} {cd0 : Int32} (hA : RA G ad θ S T cd0 σ) (p0 p1 : Int32) : nOk G B l ad N yX12_same cX12_same 5 (some .boolean) 1 0 0 [.ref (ad 49), .int p0, .int p1] σ (fun r σ' => r = some (.int (sp_same S T p0 p1).2.1) ∧ RA G ad θ ((sp_same S T p0 p1).2.2.1) ((sp_same S T p0 p1).2.2.2) ((sp_same S T p0 p1).1) σ' ∧ (∀ k, 74 ≤ k → σ' k = σ k)) := by
  refine vOk.of (by decide +kernel) (Nat.le_of_ble_eq_true rfl) ?_
  intro p e s m args below meth c C
  refine v_eq (lv' := [(0, .ref (ad 49)), (1, .int p0), (2, .int p1)]) rfl rfl rfl ?_
  obtain ⟨x, hC, hcd, hd⟩ := hA
  refine v_aload_n C eX12_same_0 rfl 0 rfl ?_
  refine v_iload_n C eX12_same_1 rfl 1 rfl ?_
  refine v_iconst (v := (0 : Int32)) C eX12_same_2 (by decide) ?_
  refine v_bipush (v := (7 : Int32)) C eX12_same_3 (by decide) ?_
  refine n_callS (av := [.int p0, .int ((0 : Int32)), .int ((7 : Int32))]) (rest := [.ref (ad 49)]) C mX12_138 (c_in p0 ((0 : Int32)) ((7 : Int32))) rfl (by decide) (by decide) ⟨by decide, by decide⟩ rfl (vi_k (vi_k (vi_k rfl))) (Nat.le_of_ble_eq_true rfl) eX12_same_5 (fun r ρ hp => ?_)
  obtain ⟨rfl, hρ⟩ := hp
  rw [hρ]
  clear hρ ρ
  by_cases c1 : 0 ≤ p0 ∧ p0 ≤ 7
  · refine v_natT (show (if (0 : Int32) ≤ p0 ∧ p0 ≤ (7 : Int32) then (1 : Int32) else 0) = 1 from if_pos c1) ?_
    refine v_if_eq (tgt := 25) C eX12_same_8 (by decide) (fun h => absurd h (by decide)) (fun _ => ?_)
    refine v_iload_n C eX12_same_11 rfl 2 rfl ?_
    refine v_iconst (v := (0 : Int32)) C eX12_same_12 (by decide) ?_
    refine v_bipush (v := (7 : Int32)) C eX12_same_13 (by decide) ?_
    refine n_callS (av := [.int p1, .int ((0 : Int32)), .int ((7 : Int32))]) (rest := [.ref (ad 49)]) C mX12_138 (c_in p1 ((0 : Int32)) ((7 : Int32))) rfl (by decide) (by decide) ⟨by decide, by decide⟩ rfl (vi_k (vi_k (vi_k rfl))) (Nat.le_of_ble_eq_true rfl) eX12_same_15 (fun r ρ hp => ?_)
    obtain ⟨rfl, hρ⟩ := hp
    rw [hρ]
    clear hρ ρ
    by_cases c2 : 0 ≤ p1 ∧ p1 ≤ (7 : Int32)
    · refine v_natT (show (if (0 : Int32) ≤ p1 ∧ p1 ≤ (7 : Int32) then (1 : Int32) else 0) = 1 from if_pos c2) ?_
      refine v_if_eq (tgt := 25) C eX12_same_18 (by decide) (fun h => absurd h (by decide)) (fun _ => ?_)
      refine v_iconst (v := (1 : Int32)) C eX12_same_21 (by decide) ?_
      refine v_goto (tgt := 26) C eX12_same_22 (by decide) ?_
      refine v_iconst (v := (1 : Int32)) C eX12_same_26 (by decide) ?_
      refine n_callV (As := [.int ((1 : Int32)), .int ((1 : Int32))]) (rest := []) C I mX12_130 (rs_good1 I hN hC 1) (hN 49 (by decide)) hC.obj rfl (by decide) (by decide) ⟨by decide, by decide⟩ rfl (vi_k (vi_k rfl)) (Nat.le_of_ble_eq_true rfl) eX12_same_27 (fun r σ1 hp => ?_)
      obtain ⟨rfl, hC1, hk1⟩ := hp
      refine v_if_ne (tgt := 35) C eX12_same_30 (by decide) (fun _ => ?_) (fun h => absurd h (by decide))
      rw [show sp_same S T p0 p1 = (0, if S (ixN p0) = S (ixN p1) then 1 else 0, S, T) from if_pos ⟨c1, c2⟩]
      obtain ⟨hu0, hu0e⟩ := ixN_of (n := 7) rfl c1
      generalize hgu0 : ixN p0 = u0 at hu0 hu0e
      have hru0 : rLn (50 + u0) = 65536 := rLn_slot _ (by omega)
      have hSu0 := hd.2 u0 (by omega)
      obtain ⟨hu1, hu1e⟩ := ixN_of (n := 7) rfl c2
      generalize hgu1 : ixN p1 = u1 at hu1 hu1e
      have hru1 : rLn (50 + u1) = 65536 := rLn_slot _ (by omega)
      have hSu1 := hd.2 u1 (by omega)
      have hb0 : bt σ1 (50 + u0) = bt σ (50 + u0) := bt_same (hk1 (50 + u0) (by omega))
      have hb1 : bt σ1 (50 + u1) = bt σ (50 + u1) := bt_same (hk1 (50 + u1) (by omega))
      have hl0 : bt σ1 2 u0 = nI (S u0).length := by rw [bt_same (hk1 2 (by decide))]; exact hSu0.1
      have hl1 : bt σ1 2 u1 = nI (S u1).length := by rw [bt_same (hk1 2 (by decide))]; exact hSu1.1
      have h650 := hSu0.2.1
      have h651 := hSu1.2.1
      refine v_aload_n C eX12_same_35 rfl 0 rfl ?_
      refine n_get C I fX12_19_X12 eX12_same_36 (hN 49 (by decide)) hC1.obj rfl ?_
      refine v_iload_n C eX12_same_39 rfl 1 rfl ?_
      refine n_iald C I eX12_same_40 (hN 2 (by decide)) hC1.len u0 hu0e (by omega) (by decide) ?_
      refine v_aload_n C eX12_same_41 rfl 0 rfl ?_
      refine n_get C I fX12_19_X12 eX12_same_42 (hN 49 (by decide)) hC1.obj rfl ?_
      refine v_iload_n C eX12_same_45 rfl 2 rfl ?_
      refine n_iald C I eX12_same_46 (hN 2 (by decide)) hC1.len u1 hu1e (by omega) (by decide) ?_
      by_cases c3 : (S u0).length = (S u1).length
      · refine v_icmp_eq (tgt := 52) C eX12_same_47 (by decide) (fun _ => ?_) (fun h => absurd (ix_eq (a := (S u0).length) (b := (S u1).length) hl0 hl1 (by omega) (by omega) (by omega)) h)
        have h0 : (1 : Int32) = alk (bt σ1 (50 + u0)) 0 (bt σ1 (50 + u1)) 0 0 := rfl
        refine v_iconst (v := (1 : Int32)) C eX12_same_52 (by decide) ?_
        rw [h0]
        refine v_istore_n (lv' := [(0, .ref (ad 49)), (1, .int p0), (2, .int p1), (3, .int (alk (bt σ1 (50 + u0)) 0 (bt σ1 (50 + u1)) 0 0))]) C eX12_same_53 rfl (by decide) [1, 2, 3, 0] rfl ?_
        refine v_iconst (v := nI 0) C eX12_same_54 (by decide) ?_
        refine v_istore (lv' := [(0, .ref (ad 49)), (1, .int p0), (2, .int p1), (3, .int (alk (bt σ1 (50 + u0)) 0 (bt σ1 (50 + u1)) 0 0)), (4, .int (nI 0))]) C eX12_same_55 (by decide) [1, 2, 3, 4, 0] rfl ?_
        refine v_forP (fun q τ => τ = σ1) (fun q => [(0, .ref (ad 49)), (1, .int p0), (2, .int p1), (3, .int (alk (bt σ1 (50 + u0)) 0 (bt σ1 (50 + u1)) 0 q)), (4, .int (nI q))]) ((S u0).length) ?_ ?_ _ rfl
        · intro τ hI
          rw [hI]
          refine v_iload C eX12_same_57 4 rfl ?_
          refine v_aload_n C eX12_same_59 rfl 0 rfl ?_
          refine n_get C I fX12_19_X12 eX12_same_60 (hN 49 (by decide)) hC1.obj rfl ?_
          refine v_iload_n C eX12_same_63 rfl 1 rfl ?_
          refine n_iald C I eX12_same_64 (hN 2 (by decide)) hC1.len u0 hu0e (by omega) (by decide) ?_
          refine v_icmp_ge (tgt := 97) C eX12_same_65 (by decide) (fun _ => ?_) (fun h => absurd (ix_le (a := (S u0).length) (b := (S u0).length) hl0 (rfl : nI ((S u0).length) = nI ((S u0).length)) (by omega) (by omega) (by omega)) h)
          refine v_iload_n C eX12_same_97 rfl 3 rfl ?_
          refine v_natT (show alk (bt σ1 (50 + u0)) 0 (bt σ1 (50 + u1)) 0 ((S u0).length) = (if S u0 = S u1 then 1 else 0) from by unfold alk; rw [hb0, hb1, hSu0.2.2.1, c3, hSu1.2.2.1]) ?_
          exact n_zret C rfl (by split <;> rfl) eX12_same_98 ⟨rfl, ⟨upd _ 4 0, hC1, rfl, hd.keep (fun k hk => hk1 k (by omega))⟩, fun k hk => hk1 k (by omega)⟩
        · intro q hq ih τ hI
          rw [hI]
          dsimp only at ih
          refine v_iload C eX12_same_57 4 rfl ?_
          refine v_aload_n C eX12_same_59 rfl 0 rfl ?_
          refine n_get C I fX12_19_X12 eX12_same_60 (hN 49 (by decide)) hC1.obj rfl ?_
          refine v_iload_n C eX12_same_63 rfl 1 rfl ?_
          refine n_iald C I eX12_same_64 (hN 2 (by decide)) hC1.len u0 hu0e (by omega) (by decide) ?_
          refine v_icmp_ge (tgt := 97) C eX12_same_65 (by decide) (fun h => absurd h (ix_nle (a := (S u0).length) (b := q) hl0 (rfl : nI q = nI q) (by omega) (by omega) (by omega))) (fun _ => ?_)
          refine v_aload_n C eX12_same_68 rfl 0 rfl ?_
          refine n_get C I fX12_16_X12 eX12_same_69 (hN 49 (by decide)) hC1.obj rfl ?_
          refine v_iload_n C eX12_same_72 rfl 1 rfl ?_
          refine n_aald (b := ad (50 + u0)) C I eX12_same_73 (hN 1 (by decide)) hC1.slot u0 hu0e (by omega) (by decide) (eRf_at (by omega)) ?_
          refine v_iload C eX12_same_74 4 rfl ?_
          refine n_bald C I eX12_same_76 (hN ((50 + u0)) (rLn_74 (Nat.lt_of_lt_of_eq (by decide) hru0.symm))) (hC1.b ((50 + u0)) 65536 hru0 (by decide)) q (rfl : nI q = nI q) (by omega) (by decide) ?_
          refine v_aload_n C eX12_same_77 rfl 0 rfl ?_
          refine n_get C I fX12_16_X12 eX12_same_78 (hN 49 (by decide)) hC1.obj rfl ?_
          refine v_iload_n C eX12_same_81 rfl 2 rfl ?_
          refine n_aald (b := ad (50 + u1)) C I eX12_same_82 (hN 1 (by decide)) hC1.slot u1 hu1e (by omega) (by decide) (eRf_at (by omega)) ?_
          refine v_iload C eX12_same_83 4 rfl ?_
          refine n_bald C I eX12_same_85 (hN ((50 + u1)) (rLn_74 (Nat.lt_of_lt_of_eq (by decide) hru1.symm))) (hC1.b ((50 + u1)) 65536 hru1 (by decide)) q (rfl : nI q = nI q) (by omega) (by decide) ?_
          refine v_icmp_eq (tgt := 91) C eX12_same_86 (by decide) (fun c1 => ?_) (fun c1 => ?_)
          · rw [show alk (bt σ1 (50 + u0)) 0 (bt σ1 (50 + u1)) 0 (q + 1) = alk (bt σ1 (50 + u0)) 0 (bt σ1 (50 + u1)) 0 q from by rw [alk_s, Nat.zero_add, if_pos c1]] at ih
            refine v_iinc (lv' := [(0, .ref (ad 49)), (1, .int p0), (2, .int p1), (3, .int (alk (bt σ1 (50 + u0)) 0 (bt σ1 (50 + u1)) 0 q)), (4, .int (nI (q + 1)))]) C eX12_same_91 4 rfl (ix_inc _) (by decide) [1, 2, 3, 4, 0] rfl ?_
            refine v_goto (tgt := 57) C eX12_same_94 (by decide) ?_
            exact ih _ rfl
          · rw [show alk (bt σ1 (50 + u0)) 0 (bt σ1 (50 + u1)) 0 (q + 1) = 0 from by rw [alk_s, Nat.zero_add, if_neg c1]] at ih
            refine v_iconst (v := (0 : Int32)) C eX12_same_89 (by decide) ?_
            refine v_istore_n (lv' := [(0, .ref (ad 49)), (1, .int p0), (2, .int p1), (3, .int ((0 : Int32))), (4, .int (nI q))]) C eX12_same_90 rfl (by decide) [1, 2, 3, 0, 4] rfl ?_
            refine v_iinc (lv' := [(0, .ref (ad 49)), (1, .int p0), (2, .int p1), (3, .int ((0 : Int32))), (4, .int (nI (q + 1)))]) C eX12_same_91 4 rfl (ix_inc _) (by decide) [1, 2, 3, 4, 0] rfl ?_
            refine v_goto (tgt := 57) C eX12_same_94 (by decide) ?_
            exact ih _ rfl
      · refine v_icmp_eq (tgt := 52) C eX12_same_47 (by decide) (fun h => absurd h (ix_ne (a := (S u0).length) (b := (S u1).length) hl0 hl1 (by omega) (by omega) (by omega))) (fun _ => ?_)
        refine v_iconst (v := (0 : Int32)) C eX12_same_50 (by decide) ?_
        rw [if_neg (fun q => c3 (congrArg List.length q))]
        exact n_zret C rfl rfl eX12_same_51 ⟨rfl, ⟨upd _ 4 0, hC1, rfl, hd.keep (fun k hk => hk1 k (by omega))⟩, fun k hk => hk1 k (by omega)⟩
    · refine v_natT (show (if (0 : Int32) ≤ p1 ∧ p1 ≤ (7 : Int32) then (1 : Int32) else 0) = 0 from if_neg c2) ?_
      refine v_if_eq (tgt := 25) C eX12_same_18 (by decide) (fun _ => ?_) (fun h => absurd rfl h)
      refine v_iconst (v := (0 : Int32)) C eX12_same_25 (by decide) ?_
      refine v_iconst (v := (1 : Int32)) C eX12_same_26 (by decide) ?_
      refine n_callV (As := [.int ((0 : Int32)), .int ((1 : Int32))]) (rest := []) C I mX12_130 (rs_good0 I hN hC 1) (hN 49 (by decide)) hC.obj rfl (by decide) (by decide) ⟨by decide, by decide⟩ rfl (vi_k (vi_k rfl)) (Nat.le_of_ble_eq_true rfl) eX12_same_27 (fun r σ1 hp => ?_)
      obtain ⟨rfl, hC1, hk1⟩ := hp
      rw [show sp_same S T p0 p1 = (1, 0, S, T) from if_neg (fun q => c2 q.2)]
      refine v_if_ne (tgt := 35) C eX12_same_30 (by decide) (fun h => absurd (by decide) h) (fun _ => ?_)
      refine v_iconst (v := (0 : Int32)) C eX12_same_33 (by decide) ?_
      exact n_zret C rfl rfl eX12_same_34 ⟨rfl, ⟨upd _ 4 1, hC1, rfl, hd.keep (fun k hk => hk1 k (by omega))⟩, fun k hk => hk1 k (by omega)⟩
  · refine v_natT (show (if (0 : Int32) ≤ p0 ∧ p0 ≤ (7 : Int32) then (1 : Int32) else 0) = 0 from if_neg c1) ?_
    refine v_if_eq (tgt := 25) C eX12_same_8 (by decide) (fun _ => ?_) (fun h => absurd rfl h)
    refine v_iconst (v := (0 : Int32)) C eX12_same_25 (by decide) ?_
    refine v_iconst (v := (1 : Int32)) C eX12_same_26 (by decide) ?_
    refine n_callV (As := [.int ((0 : Int32)), .int ((1 : Int32))]) (rest := []) C I mX12_130 (rs_good0 I hN hC 1) (hN 49 (by decide)) hC.obj rfl (by decide) (by decide) ⟨by decide, by decide⟩ rfl (vi_k (vi_k rfl)) (Nat.le_of_ble_eq_true rfl) eX12_same_27 (fun r σ1 hp => ?_)
    obtain ⟨rfl, hC1, hk1⟩ := hp
    rw [show sp_same S T p0 p1 = (1, 0, S, T) from if_neg (fun q => c1 q.1)]
    refine v_if_ne (tgt := 35) C eX12_same_30 (by decide) (fun h => absurd (by decide) h) (fun _ => ?_)
    refine v_iconst (v := (0 : Int32)) C eX12_same_33 (by decide) ?_
    exact n_zret C rfl rfl eX12_same_34 ⟨rfl, ⟨upd _ 4 1, hC1, rfl, hd.keep (fun k hk => hk1 k (by omega))⟩, fun k hk => hk1 k (by omega)⟩

end M31
