theorem eX0_init_0 : vD cX0_init 0 (.aload_n 0) 1 1 := ⟨by decide +kernel, rfl⟩
theorem eX0_init_1 : vD cX0_init 1 (.invokespecial 1) 3 4 := ⟨by decide +kernel, rfl⟩
theorem eX0_init_4 : vD cX0_init 4 (.aload_n 0) 1 5 := ⟨by decide +kernel, rfl⟩
theorem eX0_init_5 : vD cX0_init 5 (.iload 4) 2 7 := ⟨by decide +kernel, rfl⟩
theorem eX0_init_7 : vD cX0_init 7 (.bipush 12) 2 9 := ⟨by decide +kernel, rfl⟩
theorem eX0_init_9 : vD cX0_init 9 .iadd 1 10 := ⟨by decide +kernel, rfl⟩
theorem eX0_init_10 : vD cX0_init 10 (.newarray .byte) 2 12 := ⟨by decide +kernel, rfl⟩
theorem eX0_init_12 : vD cX0_init 12 (.putfield 7) 3 15 := ⟨by decide +kernel, rfl⟩
theorem eX0_init_15 : vD cX0_init 15 (.aload_n 0) 1 16 := ⟨by decide +kernel, rfl⟩
theorem eX0_init_16 : vD cX0_init 16 (.iload_n 1) 1 17 := ⟨by decide +kernel, rfl⟩
theorem eX0_init_17 : vD cX0_init 17 (.putfield 13) 3 20 := ⟨by decide +kernel, rfl⟩
theorem eX0_init_20 : vD cX0_init 20 (.aload_n 0) 1 21 := ⟨by decide +kernel, rfl⟩
theorem eX0_init_21 : vD cX0_init 21 (.iload_n 2) 1 22 := ⟨by decide +kernel, rfl⟩
theorem eX0_init_22 : vD cX0_init 22 (.putfield 17) 3 25 := ⟨by decide +kernel, rfl⟩
theorem eX0_init_25 : vD cX0_init 25 (.aload_n 0) 1 26 := ⟨by decide +kernel, rfl⟩
theorem eX0_init_26 : vD cX0_init 26 (.iload_n 3) 1 27 := ⟨by decide +kernel, rfl⟩
theorem eX0_init_27 : vD cX0_init 27 (.putfield 20) 3 30 := ⟨by decide +kernel, rfl⟩
theorem eX0_init_30 : vD cX0_init 30 (.aload_n 0) 1 31 := ⟨by decide +kernel, rfl⟩
theorem eX0_init_31 : vD cX0_init 31 (.iload 4) 2 33 := ⟨by decide +kernel, rfl⟩
theorem eX0_init_33 : vD cX0_init 33 (.putfield 23) 3 36 := ⟨by decide +kernel, rfl⟩
theorem eX0_init_36 : vD cX0_init 36 .return_ 1 37 := ⟨by decide +kernel, rfl⟩
theorem eX1_init_0 : vD cX1_init 0 (.aload_n 0) 1 1 := ⟨by decide +kernel, rfl⟩
theorem eX1_init_1 : vD cX1_init 1 (.invokespecial 1) 3 4 := ⟨by decide +kernel, rfl⟩
theorem eX1_init_4 : vD cX1_init 4 (.aload_n 0) 1 5 := ⟨by decide +kernel, rfl⟩
theorem eX1_init_5 : vD cX1_init 5 (.sipush 2144) 3 8 := ⟨by decide +kernel, rfl⟩
theorem eX1_init_8 : vD cX1_init 8 (.newarray .byte) 2 10 := ⟨by decide +kernel, rfl⟩
theorem eX1_init_10 : vD cX1_init 10 (.putfield 9) 3 13 := ⟨by decide +kernel, rfl⟩
theorem eX1_init_13 : vD cX1_init 13 (.aload_n 0) 1 14 := ⟨by decide +kernel, rfl⟩
theorem eX1_init_14 : vD cX1_init 14 (.bipush 67) 2 16 := ⟨by decide +kernel, rfl⟩
theorem eX1_init_16 : vD cX1_init 16 (.newarray .int) 2 18 := ⟨by decide +kernel, rfl⟩
theorem eX1_init_18 : vD cX1_init 18 (.putfield 13) 3 21 := ⟨by decide +kernel, rfl⟩
theorem eX1_init_21 : vD cX1_init 21 (.aload_n 0) 1 22 := ⟨by decide +kernel, rfl⟩
theorem eX1_init_22 : vD cX1_init 22 (.bipush 67) 2 24 := ⟨by decide +kernel, rfl⟩
theorem eX1_init_24 : vD cX1_init 24 (.newarray .int) 2 26 := ⟨by decide +kernel, rfl⟩
theorem eX1_init_26 : vD cX1_init 26 (.putfield 17) 3 29 := ⟨by decide +kernel, rfl⟩
theorem eX1_init_29 : vD cX1_init 29 (.aload_n 0) 1 30 := ⟨by decide +kernel, rfl⟩
theorem eX1_init_30 : vD cX1_init 30 (.bipush 67) 2 32 := ⟨by decide +kernel, rfl⟩
theorem eX1_init_32 : vD cX1_init 32 (.newarray .int) 2 34 := ⟨by decide +kernel, rfl⟩
theorem eX1_init_34 : vD cX1_init 34 (.putfield 20) 3 37 := ⟨by decide +kernel, rfl⟩
theorem eX1_init_37 : vD cX1_init 37 (.aload_n 0) 1 38 := ⟨by decide +kernel, rfl⟩
theorem eX1_init_38 : vD cX1_init 38 (.bipush 16) 2 40 := ⟨by decide +kernel, rfl⟩
theorem eX1_init_40 : vD cX1_init 40 (.putfield 23) 3 43 := ⟨by decide +kernel, rfl⟩
theorem eX1_init_43 : vD cX1_init 43 (.aload_n 0) 1 44 := ⟨by decide +kernel, rfl⟩
theorem eX1_init_44 : vD cX1_init 44 (.bipush 35) 2 46 := ⟨by decide +kernel, rfl⟩
theorem eX1_init_46 : vD cX1_init 46 (.putfield 27) 3 49 := ⟨by decide +kernel, rfl⟩
theorem eX1_init_49 : vD cX1_init 49 (.aload_n 0) 1 50 := ⟨by decide +kernel, rfl⟩
theorem eX1_init_50 : vD cX1_init 50 (.aload_n 1) 1 51 := ⟨by decide +kernel, rfl⟩
theorem eX1_init_51 : vD cX1_init 51 (.putfield 30) 3 54 := ⟨by decide +kernel, rfl⟩
theorem eX1_init_54 : vD cX1_init 54 (.aload_n 0) 1 55 := ⟨by decide +kernel, rfl⟩
theorem eX1_init_55 : vD cX1_init 55 (.getfield 20) 3 58 := ⟨by decide +kernel, rfl⟩
theorem eX1_init_58 : vD cX1_init 58 (.bipush 15) 2 60 := ⟨by decide +kernel, rfl⟩
theorem eX1_init_60 : vD cX1_init 60 (.invokestatic 34) 3 63 := ⟨by decide +kernel, rfl⟩
theorem eX1_init_63 : vD cX1_init 63 .return_ 1 64 := ⟨by decide +kernel, rfl⟩
theorem eX2_init_0 : vD cX2_init 0 (.aload_n 0) 1 1 := ⟨by decide +kernel, rfl⟩
theorem eX2_init_1 : vD cX2_init 1 (.invokespecial 1) 3 4 := ⟨by decide +kernel, rfl⟩
theorem eX2_init_4 : vD cX2_init 4 (.aload_n 0) 1 5 := ⟨by decide +kernel, rfl⟩
theorem eX2_init_5 : vD cX2_init 5 (.sipush 128) 3 8 := ⟨by decide +kernel, rfl⟩
theorem eX2_init_8 : vD cX2_init 8 (.newarray .byte) 2 10 := ⟨by decide +kernel, rfl⟩
theorem eX2_init_10 : vD cX2_init 10 (.putfield 7) 3 13 := ⟨by decide +kernel, rfl⟩
theorem eX2_init_13 : vD cX2_init 13 (.aload_n 0) 1 14 := ⟨by decide +kernel, rfl⟩
theorem eX2_init_14 : vD cX2_init 14 (.bipush 16) 2 16 := ⟨by decide +kernel, rfl⟩
theorem eX2_init_16 : vD cX2_init 16 (.putfield 13) 3 19 := ⟨by decide +kernel, rfl⟩
theorem eX2_init_19 : vD cX2_init 19 (.aload_n 0) 1 20 := ⟨by decide +kernel, rfl⟩
theorem eX2_init_20 : vD cX2_init 20 (.aload_n 1) 1 21 := ⟨by decide +kernel, rfl⟩
theorem eX2_init_21 : vD cX2_init 21 (.putfield 17) 3 24 := ⟨by decide +kernel, rfl⟩
theorem eX2_init_24 : vD cX2_init 24 .return_ 1 25 := ⟨by decide +kernel, rfl⟩
theorem eX3_init_0 : vD cX3_init 0 (.aload_n 0) 1 1 := ⟨by decide +kernel, rfl⟩
theorem eX3_init_1 : vD cX3_init 1 (.invokespecial 1) 3 4 := ⟨by decide +kernel, rfl⟩
theorem eX3_init_4 : vD cX3_init 4 (.aload_n 0) 1 5 := ⟨by decide +kernel, rfl⟩
theorem eX3_init_5 : vD cX3_init 5 (.bipush 8) 2 7 := ⟨by decide +kernel, rfl⟩
theorem eX3_init_7 : vD cX3_init 7 (.newarray .long) 2 9 := ⟨by decide +kernel, rfl⟩
theorem eX3_init_9 : vD cX3_init 9 (.putfield 7) 3 12 := ⟨by decide +kernel, rfl⟩
theorem eX3_init_12 : vD cX3_init 12 (.aload_n 0) 1 13 := ⟨by decide +kernel, rfl⟩
theorem eX3_init_13 : vD cX3_init 13 (.bipush 8) 2 15 := ⟨by decide +kernel, rfl⟩
theorem eX3_init_15 : vD cX3_init 15 (.newarray .long) 2 17 := ⟨by decide +kernel, rfl⟩
theorem eX3_init_17 : vD cX3_init 17 (.putfield 13) 3 20 := ⟨by decide +kernel, rfl⟩
theorem eX3_init_20 : vD cX3_init 20 (.aload_n 0) 1 21 := ⟨by decide +kernel, rfl⟩
theorem eX3_init_21 : vD cX3_init 21 (.iconst 0) 1 22 := ⟨by decide +kernel, rfl⟩
theorem eX3_init_22 : vD cX3_init 22 (.putfield 16) 3 25 := ⟨by decide +kernel, rfl⟩
theorem eX3_init_25 : vD cX3_init 25 (.aload_n 0) 1 26 := ⟨by decide +kernel, rfl⟩
theorem eX3_init_26 : vD cX3_init 26 (.lconst 0) 1 27 := ⟨by decide +kernel, rfl⟩
theorem eX3_init_27 : vD cX3_init 27 (.putfield 20) 3 30 := ⟨by decide +kernel, rfl⟩
theorem eX3_init_30 : vD cX3_init 30 (.aload_n 0) 1 31 := ⟨by decide +kernel, rfl⟩
theorem eX3_init_31 : vD cX3_init 31 (.iload_n 1) 1 32 := ⟨by decide +kernel, rfl⟩
theorem eX3_init_32 : vD cX3_init 32 (.putfield 24) 3 35 := ⟨by decide +kernel, rfl⟩
theorem eX3_init_35 : vD cX3_init 35 (.aload_n 0) 1 36 := ⟨by decide +kernel, rfl⟩
theorem eX3_init_36 : vD cX3_init 36 (.bipush 16) 2 38 := ⟨by decide +kernel, rfl⟩
theorem eX3_init_38 : vD cX3_init 38 (.iload_n 1) 1 39 := ⟨by decide +kernel, rfl⟩
theorem eX3_init_39 : vD cX3_init 39 .ishl 1 40 := ⟨by decide +kernel, rfl⟩
theorem eX3_init_40 : vD cX3_init 40 (.putfield 27) 3 43 := ⟨by decide +kernel, rfl⟩
theorem eX3_init_43 : vD cX3_init 43 (.aload_n 0) 1 44 := ⟨by decide +kernel, rfl⟩
theorem eX3_init_44 : vD cX3_init 44 (.bipush 16) 2 46 := ⟨by decide +kernel, rfl⟩
theorem eX3_init_46 : vD cX3_init 46 (.iload_n 1) 1 47 := ⟨by decide +kernel, rfl⟩
theorem eX3_init_47 : vD cX3_init 47 .ishl 1 48 := ⟨by decide +kernel, rfl⟩
theorem eX3_init_48 : vD cX3_init 48 (.newarray .byte) 2 50 := ⟨by decide +kernel, rfl⟩
theorem eX3_init_50 : vD cX3_init 50 (.putfield 30) 3 53 := ⟨by decide +kernel, rfl⟩
theorem eX3_init_53 : vD cX3_init 53 .return_ 1 54 := ⟨by decide +kernel, rfl⟩
theorem eX4_init_0 : vD cX4_init 0 (.aload_n 0) 1 1 := ⟨by decide +kernel, rfl⟩
theorem eX4_init_1 : vD cX4_init 1 (.iconst 2) 1 2 := ⟨by decide +kernel, rfl⟩
theorem eX4_init_2 : vD cX4_init 2 (.invokespecial 1) 3 5 := ⟨by decide +kernel, rfl⟩
theorem eX4_init_5 : vD cX4_init 5 (.aload_n 0) 1 6 := ⟨by decide +kernel, rfl⟩
theorem eX4_init_6 : vD cX4_init 6 (.bipush 64) 2 8 := ⟨by decide +kernel, rfl⟩
theorem eX4_init_8 : vD cX4_init 8 (.newarray .int) 2 10 := ⟨by decide +kernel, rfl⟩
theorem eX4_init_10 : vD cX4_init 10 (.putfield 7) 3 13 := ⟨by decide +kernel, rfl⟩
theorem eX4_init_13 : vD cX4_init 13 .return_ 1 14 := ⟨by decide +kernel, rfl⟩
theorem eX5_init_0 : vD cX5_init 0 (.aload_n 0) 1 1 := ⟨by decide +kernel, rfl⟩
theorem eX5_init_1 : vD cX5_init 1 (.new 1) 3 4 := ⟨by decide +kernel, rfl⟩
theorem eX5_init_4 : vD cX5_init 4 .dup 1 5 := ⟨by decide +kernel, rfl⟩
theorem eX5_init_5 : vD cX5_init 5 (.iconst 0) 1 6 := ⟨by decide +kernel, rfl⟩
theorem eX5_init_6 : vD cX5_init 6 (.iconst 1) 1 7 := ⟨by decide +kernel, rfl⟩
theorem eX5_init_7 : vD cX5_init 7 (.bipush 9) 2 9 := ⟨by decide +kernel, rfl⟩
theorem eX5_init_9 : vD cX5_init 9 (.bipush 10) 2 11 := ⟨by decide +kernel, rfl⟩
theorem eX5_init_11 : vD cX5_init 11 (.invokespecial 3) 3 14 := ⟨by decide +kernel, rfl⟩
theorem eX5_init_14 : vD cX5_init 14 (.invokespecial 7) 3 17 := ⟨by decide +kernel, rfl⟩
theorem eX5_init_17 : vD cX5_init 17 (.aload_n 0) 1 18 := ⟨by decide +kernel, rfl⟩
theorem eX5_init_18 : vD cX5_init 18 (.new 12) 3 21 := ⟨by decide +kernel, rfl⟩
theorem eX5_init_21 : vD cX5_init 21 .dup 1 22 := ⟨by decide +kernel, rfl⟩
theorem eX5_init_22 : vD cX5_init 22 (.invokespecial 14) 3 25 := ⟨by decide +kernel, rfl⟩
theorem eX5_init_25 : vD cX5_init 25 (.putfield 17) 3 28 := ⟨by decide +kernel, rfl⟩
theorem eX5_init_28 : vD cX5_init 28 (.aload_n 0) 1 29 := ⟨by decide +kernel, rfl⟩
theorem eX5_init_29 : vD cX5_init 29 (.new 23) 3 32 := ⟨by decide +kernel, rfl⟩
theorem eX5_init_32 : vD cX5_init 32 .dup 1 33 := ⟨by decide +kernel, rfl⟩
theorem eX5_init_33 : vD cX5_init 33 (.invokespecial 25) 3 36 := ⟨by decide +kernel, rfl⟩
theorem eX5_init_36 : vD cX5_init 36 (.putfield 26) 3 39 := ⟨by decide +kernel, rfl⟩
theorem eX5_init_39 : vD cX5_init 39 (.aload_n 0) 1 40 := ⟨by decide +kernel, rfl⟩
theorem eX5_init_40 : vD cX5_init 40 (.sipush 128) 3 43 := ⟨by decide +kernel, rfl⟩
theorem eX5_init_43 : vD cX5_init 43 (.newarray .byte) 2 45 := ⟨by decide +kernel, rfl⟩
theorem eX5_init_45 : vD cX5_init 45 (.putfield 29) 3 48 := ⟨by decide +kernel, rfl⟩
theorem eX5_init_48 : vD cX5_init 48 (.aload_n 0) 1 49 := ⟨by decide +kernel, rfl⟩
theorem eX5_init_49 : vD cX5_init 49 (.bipush 64) 2 51 := ⟨by decide +kernel, rfl⟩
theorem eX5_init_51 : vD cX5_init 51 (.newarray .byte) 2 53 := ⟨by decide +kernel, rfl⟩
theorem eX5_init_53 : vD cX5_init 53 (.putfield 33) 3 56 := ⟨by decide +kernel, rfl⟩
theorem eX5_init_56 : vD cX5_init 56 (.aload_n 0) 1 57 := ⟨by decide +kernel, rfl⟩
theorem eX5_init_57 : vD cX5_init 57 (.iconst 4) 1 58 := ⟨by decide +kernel, rfl⟩
theorem eX5_init_58 : vD cX5_init 58 (.newarray .byte) 2 60 := ⟨by decide +kernel, rfl⟩
theorem eX5_init_60 : vD cX5_init 60 (.putfield 36) 3 63 := ⟨by decide +kernel, rfl⟩
theorem eX5_init_63 : vD cX5_init 63 .return_ 1 64 := ⟨by decide +kernel, rfl⟩
theorem eX6_init_0 : vD cX6_init 0 (.aload_n 0) 1 1 := ⟨by decide +kernel, rfl⟩
theorem eX6_init_1 : vD cX6_init 1 (.iconst 3) 1 2 := ⟨by decide +kernel, rfl⟩
theorem eX6_init_2 : vD cX6_init 2 (.invokespecial 1) 3 5 := ⟨by decide +kernel, rfl⟩
theorem eX6_init_5 : vD cX6_init 5 (.aload_n 0) 1 6 := ⟨by decide +kernel, rfl⟩
theorem eX6_init_6 : vD cX6_init 6 (.bipush 80) 2 8 := ⟨by decide +kernel, rfl⟩
theorem eX6_init_8 : vD cX6_init 8 (.newarray .long) 2 10 := ⟨by decide +kernel, rfl⟩
theorem eX6_init_10 : vD cX6_init 10 (.putfield 7) 3 13 := ⟨by decide +kernel, rfl⟩
theorem eX6_init_13 : vD cX6_init 13 .return_ 1 14 := ⟨by decide +kernel, rfl⟩
theorem eX7_init_0 : vD cX7_init 0 (.aload_n 0) 1 1 := ⟨by decide +kernel, rfl⟩
theorem eX7_init_1 : vD cX7_init 1 (.new 1) 3 4 := ⟨by decide +kernel, rfl⟩
theorem eX7_init_4 : vD cX7_init 4 .dup 1 5 := ⟨by decide +kernel, rfl⟩
theorem eX7_init_5 : vD cX7_init 5 (.iconst 3) 1 6 := ⟨by decide +kernel, rfl⟩
theorem eX7_init_6 : vD cX7_init 6 (.bipush 8) 2 8 := ⟨by decide +kernel, rfl⟩
theorem eX7_init_8 : vD cX7_init 8 (.bipush 19) 2 10 := ⟨by decide +kernel, rfl⟩
theorem eX7_init_10 : vD cX7_init 10 (.bipush 20) 2 12 := ⟨by decide +kernel, rfl⟩
theorem eX7_init_12 : vD cX7_init 12 (.invokespecial 3) 3 15 := ⟨by decide +kernel, rfl⟩
theorem eX7_init_15 : vD cX7_init 15 (.invokespecial 7) 3 18 := ⟨by decide +kernel, rfl⟩
theorem eX7_init_18 : vD cX7_init 18 (.aload_n 0) 1 19 := ⟨by decide +kernel, rfl⟩
theorem eX7_init_19 : vD cX7_init 19 (.new 12) 3 22 := ⟨by decide +kernel, rfl⟩
theorem eX7_init_22 : vD cX7_init 22 .dup 1 23 := ⟨by decide +kernel, rfl⟩
theorem eX7_init_23 : vD cX7_init 23 (.invokespecial 14) 3 26 := ⟨by decide +kernel, rfl⟩
theorem eX7_init_26 : vD cX7_init 26 (.putfield 17) 3 29 := ⟨by decide +kernel, rfl⟩
theorem eX7_init_29 : vD cX7_init 29 .return_ 1 30 := ⟨by decide +kernel, rfl⟩
theorem eX9_init_0 : vD cX9_init 0 (.aload_n 0) 1 1 := ⟨by decide +kernel, rfl⟩
theorem eX9_init_1 : vD cX9_init 1 (.invokespecial 1) 3 4 := ⟨by decide +kernel, rfl⟩
theorem eX9_init_4 : vD cX9_init 4 (.aload_n 0) 1 5 := ⟨by decide +kernel, rfl⟩
theorem eX9_init_5 : vD cX9_init 5 (.bipush 25) 2 7 := ⟨by decide +kernel, rfl⟩
theorem eX9_init_7 : vD cX9_init 7 (.newarray .long) 2 9 := ⟨by decide +kernel, rfl⟩
theorem eX9_init_9 : vD cX9_init 9 (.putfield 7) 3 12 := ⟨by decide +kernel, rfl⟩
theorem eX9_init_12 : vD cX9_init 12 (.aload_n 0) 1 13 := ⟨by decide +kernel, rfl⟩
theorem eX9_init_13 : vD cX9_init 13 (.bipush 25) 2 15 := ⟨by decide +kernel, rfl⟩
theorem eX9_init_15 : vD cX9_init 15 (.newarray .long) 2 17 := ⟨by decide +kernel, rfl⟩
theorem eX9_init_17 : vD cX9_init 17 (.putfield 13) 3 20 := ⟨by decide +kernel, rfl⟩
theorem eX9_init_20 : vD cX9_init 20 (.aload_n 0) 1 21 := ⟨by decide +kernel, rfl⟩
theorem eX9_init_21 : vD cX9_init 21 (.iconst 0) 1 22 := ⟨by decide +kernel, rfl⟩
theorem eX9_init_22 : vD cX9_init 22 (.putfield 16) 3 25 := ⟨by decide +kernel, rfl⟩
theorem eX9_init_25 : vD cX9_init 25 .return_ 1 26 := ⟨by decide +kernel, rfl⟩
theorem eX10_init_0 : vD cX10_init 0 (.aload_n 0) 1 1 := ⟨by decide +kernel, rfl⟩
theorem eX10_init_1 : vD cX10_init 1 (.invokespecial 1) 3 4 := ⟨by decide +kernel, rfl⟩
theorem eX10_init_4 : vD cX10_init 4 (.aload_n 0) 1 5 := ⟨by decide +kernel, rfl⟩
theorem eX10_init_5 : vD cX10_init 5 (.bipush 32) 2 7 := ⟨by decide +kernel, rfl⟩
theorem eX10_init_7 : vD cX10_init 7 (.newarray .byte) 2 9 := ⟨by decide +kernel, rfl⟩
theorem eX10_init_9 : vD cX10_init 9 (.putfield 7) 3 12 := ⟨by decide +kernel, rfl⟩
theorem eX10_init_12 : vD cX10_init 12 (.aload_n 0) 1 13 := ⟨by decide +kernel, rfl⟩
theorem eX10_init_13 : vD cX10_init 13 (.bipush 64) 2 15 := ⟨by decide +kernel, rfl⟩
theorem eX10_init_15 : vD cX10_init 15 (.newarray .byte) 2 17 := ⟨by decide +kernel, rfl⟩
theorem eX10_init_17 : vD cX10_init 17 (.putfield 13) 3 20 := ⟨by decide +kernel, rfl⟩
theorem eX10_init_20 : vD cX10_init 20 (.aload_n 0) 1 21 := ⟨by decide +kernel, rfl⟩
theorem eX10_init_21 : vD cX10_init 21 (.sipush 1120) 3 24 := ⟨by decide +kernel, rfl⟩
theorem eX10_init_24 : vD cX10_init 24 (.newarray .byte) 2 26 := ⟨by decide +kernel, rfl⟩
theorem eX10_init_26 : vD cX10_init 26 (.putfield 16) 3 29 := ⟨by decide +kernel, rfl⟩
theorem eX10_init_29 : vD cX10_init 29 (.aload_n 0) 1 30 := ⟨by decide +kernel, rfl⟩
theorem eX10_init_30 : vD cX10_init 30 (.sipush 960) 3 33 := ⟨by decide +kernel, rfl⟩
theorem eX10_init_33 : vD cX10_init 33 (.newarray .byte) 2 35 := ⟨by decide +kernel, rfl⟩
theorem eX10_init_35 : vD cX10_init 35 (.putfield 19) 3 38 := ⟨by decide +kernel, rfl⟩
theorem eX10_init_38 : vD cX10_init 38 (.aload_n 0) 1 39 := ⟨by decide +kernel, rfl⟩
theorem eX10_init_39 : vD cX10_init 39 (.getstatic 22) 3 42 := ⟨by decide +kernel, rfl⟩
theorem eX10_init_42 : vD cX10_init 42 (.putfield 28) 3 45 := ⟨by decide +kernel, rfl⟩
theorem eX10_init_45 : vD cX10_init 45 (.aload_n 0) 1 46 := ⟨by decide +kernel, rfl⟩
theorem eX10_init_46 : vD cX10_init 46 (.bipush 16) 2 48 := ⟨by decide +kernel, rfl⟩
theorem eX10_init_48 : vD cX10_init 48 (.putfield 31) 3 51 := ⟨by decide +kernel, rfl⟩
theorem eX10_init_51 : vD cX10_init 51 (.aload_n 0) 1 52 := ⟨by decide +kernel, rfl⟩
theorem eX10_init_52 : vD cX10_init 52 (.lconst 0) 1 53 := ⟨by decide +kernel, rfl⟩
theorem eX10_init_53 : vD cX10_init 53 (.putfield 35) 3 56 := ⟨by decide +kernel, rfl⟩
theorem eX10_init_56 : vD cX10_init 56 (.aload_n 0) 1 57 := ⟨by decide +kernel, rfl⟩
theorem eX10_init_57 : vD cX10_init 57 (.iconst 0) 1 58 := ⟨by decide +kernel, rfl⟩
theorem eX10_init_58 : vD cX10_init 58 (.putfield 39) 3 61 := ⟨by decide +kernel, rfl⟩
theorem eX10_init_61 : vD cX10_init 61 (.aload_n 0) 1 62 := ⟨by decide +kernel, rfl⟩
theorem eX10_init_62 : vD cX10_init 62 (.iconst 2) 1 63 := ⟨by decide +kernel, rfl⟩
theorem eX10_init_63 : vD cX10_init 63 (.putfield 44) 3 66 := ⟨by decide +kernel, rfl⟩
theorem eX10_init_66 : vD cX10_init 66 (.aload_n 0) 1 67 := ⟨by decide +kernel, rfl⟩
theorem eX10_init_67 : vD cX10_init 67 (.iconst 0) 1 68 := ⟨by decide +kernel, rfl⟩
theorem eX10_init_68 : vD cX10_init 68 (.putfield 47) 3 71 := ⟨by decide +kernel, rfl⟩
theorem eX10_init_71 : vD cX10_init 71 (.aload_n 0) 1 72 := ⟨by decide +kernel, rfl⟩
theorem eX10_init_72 : vD cX10_init 72 (.aload_n 1) 1 73 := ⟨by decide +kernel, rfl⟩
theorem eX10_init_73 : vD cX10_init 73 (.putfield 50) 3 76 := ⟨by decide +kernel, rfl⟩
theorem eX10_init_76 : vD cX10_init 76 (.aload_n 0) 1 77 := ⟨by decide +kernel, rfl⟩
theorem eX10_init_77 : vD cX10_init 77 (.new 54) 3 80 := ⟨by decide +kernel, rfl⟩
theorem eX10_init_80 : vD cX10_init 80 .dup 1 81 := ⟨by decide +kernel, rfl⟩
theorem eX10_init_81 : vD cX10_init 81 (.aload_n 1) 1 82 := ⟨by decide +kernel, rfl⟩
theorem eX10_init_82 : vD cX10_init 82 (.invokespecial 56) 3 85 := ⟨by decide +kernel, rfl⟩
theorem eX10_init_85 : vD cX10_init 85 (.putfield 59) 3 88 := ⟨by decide +kernel, rfl⟩
theorem eX10_init_88 : vD cX10_init 88 .return_ 1 89 := ⟨by decide +kernel, rfl⟩
theorem eJ7_fill_53178_0 : vD cJ7_fill_53178 0 (.iconst 0) 1 1 := ⟨by decide +kernel, rfl⟩
theorem eJ7_fill_53178_1 : vD cJ7_fill_53178 1 (.istore_n 2) 1 2 := ⟨by decide +kernel, rfl⟩
theorem eJ7_fill_53178_2 : vD cJ7_fill_53178 2 (.aload_n 0) 1 3 := ⟨by decide +kernel, rfl⟩
theorem eJ7_fill_53178_3 : vD cJ7_fill_53178 3 .arraylength 1 4 := ⟨by decide +kernel, rfl⟩
theorem eJ7_fill_53178_4 : vD cJ7_fill_53178 4 (.istore_n 3) 1 5 := ⟨by decide +kernel, rfl⟩
theorem eJ7_fill_53178_5 : vD cJ7_fill_53178 5 (.iload_n 2) 1 6 := ⟨by decide +kernel, rfl⟩
theorem eJ7_fill_53178_6 : vD cJ7_fill_53178 6 (.iload_n 3) 1 7 := ⟨by decide +kernel, rfl⟩
theorem eJ7_fill_53178_7 : vD cJ7_fill_53178 7 (.if_icmp .ge 13) 3 10 := ⟨by decide +kernel, rfl⟩
theorem eJ7_fill_53178_10 : vD cJ7_fill_53178 10 (.aload_n 0) 1 11 := ⟨by decide +kernel, rfl⟩
theorem eJ7_fill_53178_11 : vD cJ7_fill_53178 11 (.iload_n 2) 1 12 := ⟨by decide +kernel, rfl⟩
theorem eJ7_fill_53178_12 : vD cJ7_fill_53178 12 (.iload_n 1) 1 13 := ⟨by decide +kernel, rfl⟩
theorem eJ7_fill_53178_13 : vD cJ7_fill_53178 13 .iastore 1 14 := ⟨by decide +kernel, rfl⟩
theorem eJ7_fill_53178_14 : vD cJ7_fill_53178 14 (.iinc 2 1) 3 17 := ⟨by decide +kernel, rfl⟩
theorem eJ7_fill_53178_17 : vD cJ7_fill_53178 17 (.goto (-12)) 3 20 := ⟨by decide +kernel, rfl⟩
theorem eJ7_fill_53178_20 : vD cJ7_fill_53178 20 .return_ 1 21 := ⟨by decide +kernel, rfl⟩

section CN
variable {G : vG} {B : Nat} {l : Launch}
set_option maxRecDepth 100000 in
set_option maxHeartbeats 4000000 in
theorem k_X0_20 {w0 : vW} {o : Nat} (h0 : w0 o = none)  : vOk G B l yX0_init cX0_init 5 none 1 1 32 [.ref o, .int ((3 : Int32)), .int ((8 : Int32)), .int ((19 : Int32)), .int ((20 : Int32))] (vUp w0 o (eO 0 zX0)) (fun r w' => r = none ∧ ∃ e, w' = vUp w0 o e) := by
  refine vOk.ofI (by decide +kernel) (Nat.le_of_ble_eq_true rfl) ?_
  intro p e s m args below meth c C hin
  have F : oF w0 o 5 [] zX0 := ⟨trivial, h0, rfl⟩
  refine v_eq (w' := vUp (lB w0 []) o (eO 0 zX0)) (lv' := [(0, .ref o), (1, .int ((3 : Int32))), (2, .int ((8 : Int32))), (3, .int ((19 : Int32))), (4, .int ((20 : Int32)))]) rfl rfl rfl ?_
  refine v_aload_n C eX0_init_0 rfl 0 rfl ?_
  refine v_objInit C rfl (by decide) oi_X0 eX0_init_1 (by decide) ?_
  refine v_aload_n C eX0_init_4 rfl 0 rfl ?_
  refine v_iload C eX0_init_5 4 rfl ?_
  refine v_bipush (v := (12 : Int32)) C eX0_init_7 (by decide) ?_
  refine v_iadd C eX0_init_9 ?_
  refine cb_BD C hin F rfl eX0_init_10 (ix_add (a := 20) (b := 12) (rfl : (20 : Int32) = nI 20) (rfl : (12 : Int32) = nI 12)) (by decide) ⟨Nat.le_of_ble_eq_true rfl, Nat.le_of_ble_eq_true rfl⟩ fX0_7_X0f (fun _ => ⟨rfl, rfl⟩) (by decide) eX0_init_12 (fun a1 F2 => ?_)
  refine v_aload_n C eX0_init_15 rfl 0 rfl ?_
  refine v_iload_n C eX0_init_16 rfl 1 rfl ?_
  refine cb_setF C hin F2 fX0_13_X0f ⟨rfl, rfl⟩ (by decide) eX0_init_17 (fun F3 => ?_)
  refine v_aload_n C eX0_init_20 rfl 0 rfl ?_
  refine v_iload_n C eX0_init_21 rfl 2 rfl ?_
  refine cb_setF C hin F3 fX0_17_X0f ⟨rfl, rfl⟩ (by decide) eX0_init_22 (fun F4 => ?_)
  refine v_aload_n C eX0_init_25 rfl 0 rfl ?_
  refine v_iload_n C eX0_init_26 rfl 3 rfl ?_
  refine cb_setF C hin F4 fX0_20_X0f ⟨rfl, rfl⟩ (by decide) eX0_init_27 (fun F5 => ?_)
  refine v_aload_n C eX0_init_30 rfl 0 rfl ?_
  refine v_iload C eX0_init_31 4 rfl ?_
  refine cb_setF C hin F5 fX0_23_X0f ⟨rfl, rfl⟩ (by decide) eX0_init_33 (fun F6 => ?_)
  refine v_wide (k := 1) (n := 32) (Nat.le_of_ble_eq_true rfl) (Nat.le_of_ble_eq_true rfl) ?_
  exact v_vret C rfl eX0_init_36 ⟨rfl, _, rfl⟩

set_option maxRecDepth 100000 in
set_option maxHeartbeats 4000000 in
theorem k_X0_10 {w0 : vW} {o : Nat} (h0 : w0 o = none)  : vOk G B l yX0_init cX0_init 5 none 1 1 22 [.ref o, .int ((0 : Int32)), .int ((1 : Int32)), .int ((9 : Int32)), .int ((10 : Int32))] (vUp w0 o (eO 0 zX0)) (fun r w' => r = none ∧ ∃ e, w' = vUp w0 o e) := by
  refine vOk.ofI (by decide +kernel) (Nat.le_of_ble_eq_true rfl) ?_
  intro p e s m args below meth c C hin
  have F : oF w0 o 5 [] zX0 := ⟨trivial, h0, rfl⟩
  refine v_eq (w' := vUp (lB w0 []) o (eO 0 zX0)) (lv' := [(0, .ref o), (1, .int ((0 : Int32))), (2, .int ((1 : Int32))), (3, .int ((9 : Int32))), (4, .int ((10 : Int32)))]) rfl rfl rfl ?_
  refine v_aload_n C eX0_init_0 rfl 0 rfl ?_
  refine v_objInit C rfl (by decide) oi_X0 eX0_init_1 (by decide) ?_
  refine v_aload_n C eX0_init_4 rfl 0 rfl ?_
  refine v_iload C eX0_init_5 4 rfl ?_
  refine v_bipush (v := (12 : Int32)) C eX0_init_7 (by decide) ?_
  refine v_iadd C eX0_init_9 ?_
  refine cb_BD C hin F rfl eX0_init_10 (ix_add (a := 10) (b := 12) (rfl : (10 : Int32) = nI 10) (rfl : (12 : Int32) = nI 12)) (by decide) ⟨Nat.le_of_ble_eq_true rfl, Nat.le_of_ble_eq_true rfl⟩ fX0_7_X0f (fun _ => ⟨rfl, rfl⟩) (by decide) eX0_init_12 (fun a1 F2 => ?_)
  refine v_aload_n C eX0_init_15 rfl 0 rfl ?_
  refine v_iload_n C eX0_init_16 rfl 1 rfl ?_
  refine cb_setF C hin F2 fX0_13_X0f ⟨rfl, rfl⟩ (by decide) eX0_init_17 (fun F3 => ?_)
  refine v_aload_n C eX0_init_20 rfl 0 rfl ?_
  refine v_iload_n C eX0_init_21 rfl 2 rfl ?_
  refine cb_setF C hin F3 fX0_17_X0f ⟨rfl, rfl⟩ (by decide) eX0_init_22 (fun F4 => ?_)
  refine v_aload_n C eX0_init_25 rfl 0 rfl ?_
  refine v_iload_n C eX0_init_26 rfl 3 rfl ?_
  refine cb_setF C hin F4 fX0_20_X0f ⟨rfl, rfl⟩ (by decide) eX0_init_27 (fun F5 => ?_)
  refine v_aload_n C eX0_init_30 rfl 0 rfl ?_
  refine v_iload C eX0_init_31 4 rfl ?_
  refine cb_setF C hin F5 fX0_23_X0f ⟨rfl, rfl⟩ (by decide) eX0_init_33 (fun F6 => ?_)
  refine v_wide (k := 1) (n := 22) (Nat.le_of_ble_eq_true rfl) (Nat.le_of_ble_eq_true rfl) ?_
  exact v_vret C rfl eX0_init_36 ⟨rfl, _, rfl⟩

set_option maxRecDepth 100000 in
set_option maxHeartbeats 4000000 in
theorem k_X9 {w0 : vW} {o : Nat} (h0 : w0 o = none)  : vOk G B l yX9_init cX9_init 1 none 1 2 50 [.ref o] (vUp w0 o (eO 6 zX9)) (fun r w' => r = none ∧ ∃ e, w' = vUp w0 o e) := by
  refine vOk.ofI (by decide +kernel) (Nat.le_of_ble_eq_true rfl) ?_
  intro p e s m args below meth c C hin
  have F : oF w0 o 3 [] zX9 := ⟨trivial, h0, rfl⟩
  refine v_eq (w' := vUp (lB w0 []) o (eO 6 zX9)) (lv' := [(0, .ref o)]) rfl rfl rfl ?_
  refine v_aload_n C eX9_init_0 rfl 0 rfl ?_
  refine v_objInit C rfl (by decide) oi_X9 eX9_init_1 (by decide) ?_
  refine v_aload_n C eX9_init_4 rfl 0 rfl ?_
  refine v_bipush (v := (25 : Int32)) C eX9_init_5 (by decide) ?_
  refine cb_JD C hin F rfl eX9_init_7 (rfl : (25 : Int32) = nI 25) (by decide) ⟨Nat.le_of_ble_eq_true rfl, Nat.le_of_ble_eq_true rfl⟩ fX9_7_X9f (fun _ => ⟨rfl, rfl⟩) (by decide) eX9_init_9 (fun a1 F2 => ?_)
  refine v_aload_n C eX9_init_12 rfl 0 rfl ?_
  refine v_bipush (v := (25 : Int32)) C eX9_init_13 (by decide) ?_
  refine cb_JD C hin F2 rfl eX9_init_15 (rfl : (25 : Int32) = nI 25) (by decide) ⟨Nat.le_of_ble_eq_true rfl, Nat.le_of_ble_eq_true rfl⟩ fX9_13_X9f (fun _ => ⟨rfl, rfl⟩) (by decide) eX9_init_17 (fun a3 F4 => ?_)
  refine v_aload_n C eX9_init_20 rfl 0 rfl ?_
  refine v_iconst (v := (0 : Int32)) C eX9_init_21 (by decide) ?_
  refine cb_set C F4 fX9_16_X9p ⟨rfl, rfl⟩ (by decide) eX9_init_22 (fun F5 => ?_)
  refine v_wide (k := 2) (n := 50) (Nat.le_of_ble_eq_true rfl) (Nat.le_of_ble_eq_true rfl) ?_
  exact v_vret C rfl eX9_init_25 ⟨rfl, _, rfl⟩

set_option maxRecDepth 100000 in
set_option maxHeartbeats 4000000 in
theorem k_X2_X7 {w0 : vW} {o : Nat} (h0 : w0 o = none) {q : Nat} : vOk G B l yX2_init cX2_init 2 none 1 1 128 [.ref o, .ref q] (vUp w0 o (eO 5 zX7)) (fun r w' => r = none ∧ ∃ fs : List Value, fs.length = 4 ∧ w' = vUp w0 o (eO 5 fs)) := by
  refine vOk.ofI (by decide +kernel) (Nat.le_of_ble_eq_true rfl) ?_
  intro p e s m args below meth c C hin
  have F : oF w0 o 4 [] zX7 := ⟨trivial, h0, rfl⟩
  refine v_eq (w' := vUp (lB w0 []) o (eO 5 zX7)) (lv' := [(0, .ref o), (1, .ref q)]) rfl rfl rfl ?_
  refine v_aload_n C eX2_init_0 rfl 0 rfl ?_
  refine v_objInit C rfl (by decide) oi_X2 eX2_init_1 (by decide) ?_
  refine v_aload_n C eX2_init_4 rfl 0 rfl ?_
  refine v_sipush (v := (128 : Int32)) C eX2_init_5 (by decide) ?_
  refine cb_BD C hin F rfl eX2_init_8 (rfl : (128 : Int32) = nI 128) (by decide) ⟨Nat.le_of_ble_eq_true rfl, Nat.le_of_ble_eq_true rfl⟩ fX2_7_X7f (fun _ => ⟨rfl, rfl⟩) (by decide) eX2_init_10 (fun a1 F2 => ?_)
  refine v_aload_n C eX2_init_13 rfl 0 rfl ?_
  refine v_bipush (v := (16 : Int32)) C eX2_init_14 (by decide) ?_
  refine cb_set C F2 fX2_13_X7p ⟨rfl, rfl⟩ (by decide) eX2_init_16 (fun F3 => ?_)
  refine v_aload_n C eX2_init_19 rfl 0 rfl ?_
  refine v_aload_n C eX2_init_20 rfl 1 rfl ?_
  refine cb_setF C hin F3 fX2_17_X7f ⟨rfl, rfl⟩ (by decide) eX2_init_21 (fun F4 => ?_)
  refine v_wide (k := 1) (n := 128) (Nat.le_of_ble_eq_true rfl) (Nat.le_of_ble_eq_true rfl) ?_
  exact v_vret C rfl eX2_init_24 ⟨rfl, _, rfl, rfl⟩

set_option maxRecDepth 100000 in
set_option maxHeartbeats 4000000 in
theorem k_X2_X5 {w0 : vW} {o : Nat} (h0 : w0 o = none) {q : Nat} : vOk G B l yX2_init cX2_init 2 none 1 1 128 [.ref o, .ref q] (vUp w0 o (eO 3 zX5)) (fun r w' => r = none ∧ ∃ fs : List Value, fs.length = 8 ∧ w' = vUp w0 o (eO 3 fs)) := by
  refine vOk.ofI (by decide +kernel) (Nat.le_of_ble_eq_true rfl) ?_
  intro p e s m args below meth c C hin
  have F : oF w0 o 8 [] zX5 := ⟨trivial, h0, rfl⟩
  refine v_eq (w' := vUp (lB w0 []) o (eO 3 zX5)) (lv' := [(0, .ref o), (1, .ref q)]) rfl rfl rfl ?_
  refine v_aload_n C eX2_init_0 rfl 0 rfl ?_
  refine v_objInit C rfl (by decide) oi_X2 eX2_init_1 (by decide) ?_
  refine v_aload_n C eX2_init_4 rfl 0 rfl ?_
  refine v_sipush (v := (128 : Int32)) C eX2_init_5 (by decide) ?_
  refine cb_BD C hin F rfl eX2_init_8 (rfl : (128 : Int32) = nI 128) (by decide) ⟨Nat.le_of_ble_eq_true rfl, Nat.le_of_ble_eq_true rfl⟩ fX2_7_X5f (fun _ => ⟨rfl, rfl⟩) (by decide) eX2_init_10 (fun a1 F2 => ?_)
  refine v_aload_n C eX2_init_13 rfl 0 rfl ?_
  refine v_bipush (v := (16 : Int32)) C eX2_init_14 (by decide) ?_
  refine cb_set C F2 fX2_13_X5p ⟨rfl, rfl⟩ (by decide) eX2_init_16 (fun F3 => ?_)
  refine v_aload_n C eX2_init_19 rfl 0 rfl ?_
  refine v_aload_n C eX2_init_20 rfl 1 rfl ?_
  refine cb_setF C hin F3 fX2_17_X5f ⟨rfl, rfl⟩ (by decide) eX2_init_21 (fun F4 => ?_)
  refine v_wide (k := 1) (n := 128) (Nat.le_of_ble_eq_true rfl) (Nat.le_of_ble_eq_true rfl) ?_
  exact v_vret C rfl eX2_init_24 ⟨rfl, _, rfl, rfl⟩

set_option maxRecDepth 100000 in
set_option maxHeartbeats 4000000 in
theorem k_X3_X4 {w0 : vW} {o : Nat} (h0 : w0 o = none)  : vOk G B l yX3_init cX3_init 2 none 1 3 80 [.ref o, .int ((2 : Int32))] (vUp w0 o (eO 2 zX4)) (fun r w' => r = none ∧ ∃ fs : List Value, fs.length = 8 ∧ w' = vUp w0 o (eO 2 fs)) := by
  refine vOk.ofI (by decide +kernel) (Nat.le_of_ble_eq_true rfl) ?_
  intro p e s m args below meth c C hin
  have F : oF w0 o 8 [] zX4 := ⟨trivial, h0, rfl⟩
  refine v_eq (w' := vUp (lB w0 []) o (eO 2 zX4)) (lv' := [(0, .ref o), (1, .int ((2 : Int32)))]) rfl rfl rfl ?_
  refine v_aload_n C eX3_init_0 rfl 0 rfl ?_
  refine v_objInit C rfl (by decide) oi_X3 eX3_init_1 (by decide) ?_
  refine v_aload_n C eX3_init_4 rfl 0 rfl ?_
  refine v_bipush (v := (8 : Int32)) C eX3_init_5 (by decide) ?_
  refine cb_JD C hin F rfl eX3_init_7 (rfl : (8 : Int32) = nI 8) (by decide) ⟨Nat.le_of_ble_eq_true rfl, Nat.le_of_ble_eq_true rfl⟩ fX3_7_X4f (fun _ => ⟨rfl, rfl⟩) (by decide) eX3_init_9 (fun a1 F2 => ?_)
  refine v_aload_n C eX3_init_12 rfl 0 rfl ?_
  refine v_bipush (v := (8 : Int32)) C eX3_init_13 (by decide) ?_
  refine cb_JD C hin F2 rfl eX3_init_15 (rfl : (8 : Int32) = nI 8) (by decide) ⟨Nat.le_of_ble_eq_true rfl, Nat.le_of_ble_eq_true rfl⟩ fX3_13_X4f (fun _ => ⟨rfl, rfl⟩) (by decide) eX3_init_17 (fun a3 F4 => ?_)
  refine v_aload_n C eX3_init_20 rfl 0 rfl ?_
  refine v_iconst (v := (0 : Int32)) C eX3_init_21 (by decide) ?_
  refine cb_set C F4 fX3_16_X4p ⟨rfl, rfl⟩ (by decide) eX3_init_22 (fun F5 => ?_)
  refine v_aload_n C eX3_init_25 rfl 0 rfl ?_
  refine v_lconst (v := (0 : Int64)) C eX3_init_26 (by decide) ?_
  refine cb_set C F5 fX3_20_X4p ⟨rfl, rfl⟩ (by decide) eX3_init_27 (fun F6 => ?_)
  refine v_aload_n C eX3_init_30 rfl 0 rfl ?_
  refine v_iload_n C eX3_init_31 rfl 1 rfl ?_
  refine cb_setF C hin F6 fX3_24_X4f ⟨rfl, rfl⟩ (by decide) eX3_init_32 (fun F7 => ?_)
  refine v_aload_n C eX3_init_35 rfl 0 rfl ?_
  refine v_bipush (v := (16 : Int32)) C eX3_init_36 (by decide) ?_
  refine v_iload_n C eX3_init_38 rfl 1 rfl ?_
  refine v_ishl C eX3_init_39 ?_
  refine cb_setF C hin F7 fX3_27_X4f ⟨rfl, rfl⟩ (by decide) eX3_init_40 (fun F8 => ?_)
  refine v_aload_n C eX3_init_43 rfl 0 rfl ?_
  refine v_bipush (v := (16 : Int32)) C eX3_init_44 (by decide) ?_
  refine v_iload_n C eX3_init_46 rfl 1 rfl ?_
  refine v_ishl C eX3_init_47 ?_
  refine cb_BD C hin F8 rfl eX3_init_48 (ix_shl (rfl : (16 : Int32) = nI 16) 2 (by decide) (by decide)) (by decide) ⟨Nat.le_of_ble_eq_true rfl, Nat.le_of_ble_eq_true rfl⟩ fX3_30_X4f (fun _ => ⟨rfl, rfl⟩) (by decide) eX3_init_50 (fun a9 F10 => ?_)
  refine v_wide (k := 3) (n := 80) (Nat.le_of_ble_eq_true rfl) (Nat.le_of_ble_eq_true rfl) ?_
  exact v_vret C rfl eX3_init_53 ⟨rfl, _, rfl, rfl⟩

set_option maxRecDepth 100000 in
set_option maxHeartbeats 4000000 in
theorem k_X3_X6 {w0 : vW} {o : Nat} (h0 : w0 o = none)  : vOk G B l yX3_init cX3_init 2 none 1 3 144 [.ref o, .int ((3 : Int32))] (vUp w0 o (eO 4 zX6)) (fun r w' => r = none ∧ ∃ fs : List Value, fs.length = 8 ∧ w' = vUp w0 o (eO 4 fs)) := by
  refine vOk.ofI (by decide +kernel) (Nat.le_of_ble_eq_true rfl) ?_
  intro p e s m args below meth c C hin
  have F : oF w0 o 8 [] zX6 := ⟨trivial, h0, rfl⟩
  refine v_eq (w' := vUp (lB w0 []) o (eO 4 zX6)) (lv' := [(0, .ref o), (1, .int ((3 : Int32)))]) rfl rfl rfl ?_
  refine v_aload_n C eX3_init_0 rfl 0 rfl ?_
  refine v_objInit C rfl (by decide) oi_X3 eX3_init_1 (by decide) ?_
  refine v_aload_n C eX3_init_4 rfl 0 rfl ?_
  refine v_bipush (v := (8 : Int32)) C eX3_init_5 (by decide) ?_
  refine cb_JD C hin F rfl eX3_init_7 (rfl : (8 : Int32) = nI 8) (by decide) ⟨Nat.le_of_ble_eq_true rfl, Nat.le_of_ble_eq_true rfl⟩ fX3_7_X6f (fun _ => ⟨rfl, rfl⟩) (by decide) eX3_init_9 (fun a1 F2 => ?_)
  refine v_aload_n C eX3_init_12 rfl 0 rfl ?_
  refine v_bipush (v := (8 : Int32)) C eX3_init_13 (by decide) ?_
  refine cb_JD C hin F2 rfl eX3_init_15 (rfl : (8 : Int32) = nI 8) (by decide) ⟨Nat.le_of_ble_eq_true rfl, Nat.le_of_ble_eq_true rfl⟩ fX3_13_X6f (fun _ => ⟨rfl, rfl⟩) (by decide) eX3_init_17 (fun a3 F4 => ?_)
  refine v_aload_n C eX3_init_20 rfl 0 rfl ?_
  refine v_iconst (v := (0 : Int32)) C eX3_init_21 (by decide) ?_
  refine cb_set C F4 fX3_16_X6p ⟨rfl, rfl⟩ (by decide) eX3_init_22 (fun F5 => ?_)
  refine v_aload_n C eX3_init_25 rfl 0 rfl ?_
  refine v_lconst (v := (0 : Int64)) C eX3_init_26 (by decide) ?_
  refine cb_set C F5 fX3_20_X6p ⟨rfl, rfl⟩ (by decide) eX3_init_27 (fun F6 => ?_)
  refine v_aload_n C eX3_init_30 rfl 0 rfl ?_
  refine v_iload_n C eX3_init_31 rfl 1 rfl ?_
  refine cb_setF C hin F6 fX3_24_X6f ⟨rfl, rfl⟩ (by decide) eX3_init_32 (fun F7 => ?_)
  refine v_aload_n C eX3_init_35 rfl 0 rfl ?_
  refine v_bipush (v := (16 : Int32)) C eX3_init_36 (by decide) ?_
  refine v_iload_n C eX3_init_38 rfl 1 rfl ?_
  refine v_ishl C eX3_init_39 ?_
  refine cb_setF C hin F7 fX3_27_X6f ⟨rfl, rfl⟩ (by decide) eX3_init_40 (fun F8 => ?_)
  refine v_aload_n C eX3_init_43 rfl 0 rfl ?_
  refine v_bipush (v := (16 : Int32)) C eX3_init_44 (by decide) ?_
  refine v_iload_n C eX3_init_46 rfl 1 rfl ?_
  refine v_ishl C eX3_init_47 ?_
  refine cb_BD C hin F8 rfl eX3_init_48 (ix_shl (rfl : (16 : Int32) = nI 16) 3 (by decide) (by decide)) (by decide) ⟨Nat.le_of_ble_eq_true rfl, Nat.le_of_ble_eq_true rfl⟩ fX3_30_X6f (fun _ => ⟨rfl, rfl⟩) (by decide) eX3_init_50 (fun a9 F10 => ?_)
  refine v_wide (k := 3) (n := 144) (Nat.le_of_ble_eq_true rfl) (Nat.le_of_ble_eq_true rfl) ?_
  exact v_vret C rfl eX3_init_53 ⟨rfl, _, rfl, rfl⟩

set_option maxRecDepth 100000 in
set_option maxHeartbeats 4000000 in
theorem k_X4 {w0 : vW} {o : Nat} (h0 : w0 o = none)  : vOk G B l yX4_init cX4_init 1 none 2 4 144 [.ref o] (vUp w0 o (eO 2 zX4)) (fun r w' => r = none ∧ ∃ e, w' = vUp w0 o e) := by
  refine vOk.ofI (by decide +kernel) (Nat.le_of_ble_eq_true rfl) ?_
  intro p e s m args below meth c C hin
  have F : oF w0 o 8 [] zX4 := ⟨trivial, h0, rfl⟩
  refine v_eq (w' := vUp (lB w0 []) o (eO 2 zX4)) (lv' := [(0, .ref o)]) rfl rfl rfl ?_
  refine v_aload_n C eX4_init_0 rfl 0 rfl ?_
  refine v_iconst (v := (2 : Int32)) C eX4_init_1 (by decide) ?_
  refine v_callI (rt := none) (As := [.int ((2 : Int32))]) (rest := []) C mX4_1 (k_X3_X4 h0) rfl (by decide) (by decide) ⟨Nat.le_of_ble_eq_true rfl, Nat.le_of_ble_eq_true rfl⟩ rfl rfl (Nat.le_of_ble_eq_true rfl) eX4_init_2 (fun r w1 hp => ?_)
  obtain ⟨rfl, fs1, h1, rfl⟩ := hp
  have F1 : oF w0 o 8 [] fs1 := ⟨trivial, h0, h1⟩
  refine v_eq (w' := vUp (lB w0 []) o (eO 2 fs1)) rfl rfl rfl ?_
  refine v_aload_n C eX4_init_5 rfl 0 rfl ?_
  refine v_bipush (v := (64 : Int32)) C eX4_init_6 (by decide) ?_
  refine cb_ID C hin F1 rfl eX4_init_8 (rfl : (64 : Int32) = nI 64) (by decide) ⟨Nat.le_of_ble_eq_true rfl, Nat.le_of_ble_eq_true rfl⟩ fX4_7_X4f (fun _ => ⟨rfl, rfl⟩) (by decide) eX4_init_10 (fun a1 F2 => ?_)
  refine v_wide (k := 4) (n := 144) (Nat.le_of_ble_eq_true rfl) (Nat.le_of_ble_eq_true rfl) ?_
  exact v_vret C rfl eX4_init_13 ⟨rfl, _, rfl⟩

set_option maxRecDepth 100000 in
set_option maxHeartbeats 4000000 in
theorem k_X6 {w0 : vW} {o : Nat} (h0 : w0 o = none)  : vOk G B l yX6_init cX6_init 1 none 2 4 224 [.ref o] (vUp w0 o (eO 4 zX6)) (fun r w' => r = none ∧ ∃ e, w' = vUp w0 o e) := by
  refine vOk.ofI (by decide +kernel) (Nat.le_of_ble_eq_true rfl) ?_
  intro p e s m args below meth c C hin
  have F : oF w0 o 8 [] zX6 := ⟨trivial, h0, rfl⟩
  refine v_eq (w' := vUp (lB w0 []) o (eO 4 zX6)) (lv' := [(0, .ref o)]) rfl rfl rfl ?_
  refine v_aload_n C eX6_init_0 rfl 0 rfl ?_
  refine v_iconst (v := (3 : Int32)) C eX6_init_1 (by decide) ?_
  refine v_callI (rt := none) (As := [.int ((3 : Int32))]) (rest := []) C mX6_1 (k_X3_X6 h0) rfl (by decide) (by decide) ⟨Nat.le_of_ble_eq_true rfl, Nat.le_of_ble_eq_true rfl⟩ rfl rfl (Nat.le_of_ble_eq_true rfl) eX6_init_2 (fun r w1 hp => ?_)
  obtain ⟨rfl, fs1, h1, rfl⟩ := hp
  have F1 : oF w0 o 8 [] fs1 := ⟨trivial, h0, h1⟩
  refine v_eq (w' := vUp (lB w0 []) o (eO 4 fs1)) rfl rfl rfl ?_
  refine v_aload_n C eX6_init_5 rfl 0 rfl ?_
  refine v_bipush (v := (80 : Int32)) C eX6_init_6 (by decide) ?_
  refine cb_JD C hin F1 rfl eX6_init_8 (rfl : (80 : Int32) = nI 80) (by decide) ⟨Nat.le_of_ble_eq_true rfl, Nat.le_of_ble_eq_true rfl⟩ fX6_7_X6f (fun _ => ⟨rfl, rfl⟩) (by decide) eX6_init_10 (fun a1 F2 => ?_)
  refine v_wide (k := 4) (n := 224) (Nat.le_of_ble_eq_true rfl) (Nat.le_of_ble_eq_true rfl) ?_
  exact v_vret C rfl eX6_init_13 ⟨rfl, _, rfl⟩

set_option maxRecDepth 100000 in
set_option maxHeartbeats 4000000 in
theorem k_X7 {w0 : vW} {o : Nat} (h0 : w0 o = none)  : vOk G B l yX7_init cX7_init 1 none 2 6 218 [.ref o] (vUp w0 o (eO 5 zX7)) (fun r w' => r = none ∧ ∃ e, w' = vUp w0 o e) := by
  refine vOk.ofI (by decide +kernel) (Nat.le_of_ble_eq_true rfl) ?_
  intro p e s m args below meth c C hin
  have F : oF w0 o 4 [] zX7 := ⟨trivial, h0, rfl⟩
  refine v_eq (w' := vUp (lB w0 []) o (eO 5 zX7)) (lv' := [(0, .ref o)]) rfl rfl rfl ?_
  refine v_aload_n C eX7_init_0 rfl 0 rfl ?_
  refine v_new C rfl nwX7_1 ⟨Nat.le_of_ble_eq_true rfl, Nat.le_of_ble_eq_true rfl⟩ eX7_init_1 (fun q1 hq2 _ => ?_)
  refine v_dup C eX7_init_4 rfl ?_
  refine v_iconst (v := (3 : Int32)) C eX7_init_5 (by decide) ?_
  refine v_bipush (v := (8 : Int32)) C eX7_init_6 (by decide) ?_
  refine v_bipush (v := (19 : Int32)) C eX7_init_8 (by decide) ?_
  refine v_bipush (v := (20 : Int32)) C eX7_init_10 (by decide) ?_
  refine v_callI (rt := none) (As := [.int ((3 : Int32)), .int ((8 : Int32)), .int ((19 : Int32)), .int ((20 : Int32))]) (rest := [.ref q1, .ref o]) C mX7_3 (k_X0_20 hq2) rfl (by decide) (by decide) ⟨Nat.le_of_ble_eq_true rfl, Nat.le_of_ble_eq_true rfl⟩ rfl rfl (Nat.le_of_ble_eq_true rfl) eX7_init_12 (fun r w1 hp => ?_)
  obtain ⟨rfl, e1, rfl⟩ := hp
  have hq21 := vUp_none hq2
  refine v_eq (w' := vUp (vUp w0 q1 e1) o (eO 5 zX7)) (by show vUp (vUp w0 o _) q1 _ = _; rw [vUp_com (Ne.symm hq21.1)]) rfl rfl ?_
  refine v_callI (rt := none) (As := [.ref q1]) (rest := []) C mX7_7 (k_X2_X7 (w0 := vUp w0 q1 e1) (by rw [vUp_ne (Ne.symm hq21.1)]; exact h0)) rfl (by decide) (by decide) ⟨Nat.le_of_ble_eq_true rfl, Nat.le_of_ble_eq_true rfl⟩ rfl rfl (Nat.le_of_ble_eq_true rfl) eX7_init_15 (fun r w1 hp => ?_)
  obtain ⟨rfl, fs1, h1, rfl⟩ := hp
  refine v_eq (w' := vUp (vUp (lB w0 []) o (eO 5 fs1)) q1 e1) (by show vUp (vUp w0 q1 _) o _ = vUp (vUp w0 o _) q1 _; rw [vUp_com hq21.1]) rfl rfl ?_
  refine v_drop (by show vUp w0 o _ q1 = none; rw [vUp_ne hq21.1]; exact hq21.2) ?_
  have F1 : oF w0 o 4 [] fs1 := ⟨trivial, h0, h1⟩
  refine v_aload_n C eX7_init_18 rfl 0 rfl ?_
  refine v_new C rfl nwX7_12 ⟨Nat.le_of_ble_eq_true rfl, Nat.le_of_ble_eq_true rfl⟩ eX7_init_19 (fun q3 hq4 _ => ?_)
  refine v_dup C eX7_init_22 rfl ?_
  refine v_callI (rt := none) (As := []) (rest := [.ref q3, .ref o]) C mX7_14 (k_X9 hq4) rfl (by decide) (by decide) ⟨Nat.le_of_ble_eq_true rfl, Nat.le_of_ble_eq_true rfl⟩ rfl rfl (Nat.le_of_ble_eq_true rfl) eX7_init_23 (fun r w1 hp => ?_)
  obtain ⟨rfl, eq3, rfl⟩ := hp
  refine cb_putD C hin F1 hq4 fX7_17_X7f ⟨rfl, rfl⟩ (by decide) eX7_init_26 (fun F5 => ?_)
  refine v_wide (k := 6) (n := 218) (Nat.le_of_ble_eq_true rfl) (Nat.le_of_ble_eq_true rfl) ?_
  exact v_vret C rfl eX7_init_29 ⟨rfl, _, rfl⟩

set_option maxRecDepth 100000 in
set_option maxHeartbeats 4000000 in
theorem k_X5 {w0 : vW} {o : Nat} (h0 : w0 o = none)  : vOk G B l yX5_init cX5_init 1 none 3 16 735 [.ref o] (vUp w0 o (eO 3 zX5)) (fun r w' => r = none ∧ ∃ e, w' = vUp w0 o e) := by
  refine vOk.ofI (by decide +kernel) (Nat.le_of_ble_eq_true rfl) ?_
  intro p e s m args below meth c C hin
  have F : oF w0 o 8 [] zX5 := ⟨trivial, h0, rfl⟩
  refine v_eq (w' := vUp (lB w0 []) o (eO 3 zX5)) (lv' := [(0, .ref o)]) rfl rfl rfl ?_
  refine v_aload_n C eX5_init_0 rfl 0 rfl ?_
  refine v_new C rfl nwX5_1 ⟨Nat.le_of_ble_eq_true rfl, Nat.le_of_ble_eq_true rfl⟩ eX5_init_1 (fun q1 hq2 _ => ?_)
  refine v_dup C eX5_init_4 rfl ?_
  refine v_iconst (v := (0 : Int32)) C eX5_init_5 (by decide) ?_
  refine v_iconst (v := (1 : Int32)) C eX5_init_6 (by decide) ?_
  refine v_bipush (v := (9 : Int32)) C eX5_init_7 (by decide) ?_
  refine v_bipush (v := (10 : Int32)) C eX5_init_9 (by decide) ?_
  refine v_callI (rt := none) (As := [.int ((0 : Int32)), .int ((1 : Int32)), .int ((9 : Int32)), .int ((10 : Int32))]) (rest := [.ref q1, .ref o]) C mX5_3 (k_X0_10 hq2) rfl (by decide) (by decide) ⟨Nat.le_of_ble_eq_true rfl, Nat.le_of_ble_eq_true rfl⟩ rfl rfl (Nat.le_of_ble_eq_true rfl) eX5_init_11 (fun r w1 hp => ?_)
  obtain ⟨rfl, e1, rfl⟩ := hp
  have hq21 := vUp_none hq2
  refine v_eq (w' := vUp (vUp w0 q1 e1) o (eO 3 zX5)) (by show vUp (vUp w0 o _) q1 _ = _; rw [vUp_com (Ne.symm hq21.1)]) rfl rfl ?_
  refine v_callI (rt := none) (As := [.ref q1]) (rest := []) C mX5_7 (k_X2_X5 (w0 := vUp w0 q1 e1) (by rw [vUp_ne (Ne.symm hq21.1)]; exact h0)) rfl (by decide) (by decide) ⟨Nat.le_of_ble_eq_true rfl, Nat.le_of_ble_eq_true rfl⟩ rfl rfl (Nat.le_of_ble_eq_true rfl) eX5_init_14 (fun r w1 hp => ?_)
  obtain ⟨rfl, fs1, h1, rfl⟩ := hp
  refine v_eq (w' := vUp (vUp (lB w0 []) o (eO 3 fs1)) q1 e1) (by show vUp (vUp w0 q1 _) o _ = vUp (vUp w0 o _) q1 _; rw [vUp_com hq21.1]) rfl rfl ?_
  refine v_drop (by show vUp w0 o _ q1 = none; rw [vUp_ne hq21.1]; exact hq21.2) ?_
  have F1 : oF w0 o 8 [] fs1 := ⟨trivial, h0, h1⟩
  refine v_aload_n C eX5_init_17 rfl 0 rfl ?_
  refine v_new C rfl nwX5_12 ⟨Nat.le_of_ble_eq_true rfl, Nat.le_of_ble_eq_true rfl⟩ eX5_init_18 (fun q3 hq4 _ => ?_)
  refine v_dup C eX5_init_21 rfl ?_
  refine v_callI (rt := none) (As := []) (rest := [.ref q3, .ref o]) C mX5_14 (k_X4 hq4) rfl (by decide) (by decide) ⟨Nat.le_of_ble_eq_true rfl, Nat.le_of_ble_eq_true rfl⟩ rfl rfl (Nat.le_of_ble_eq_true rfl) eX5_init_22 (fun r w1 hp => ?_)
  obtain ⟨rfl, eq3, rfl⟩ := hp
  refine cb_putD C hin F1 hq4 fX5_17_X5f ⟨rfl, rfl⟩ (by decide) eX5_init_25 (fun F5 => ?_)
  refine v_aload_n C eX5_init_28 rfl 0 rfl ?_
  refine v_new C rfl nwX5_23 ⟨Nat.le_of_ble_eq_true rfl, Nat.le_of_ble_eq_true rfl⟩ eX5_init_29 (fun q6 hq7 _ => ?_)
  refine v_dup C eX5_init_32 rfl ?_
  refine v_callI (rt := none) (As := []) (rest := [.ref q6, .ref o]) C mX5_25 (k_X6 hq7) rfl (by decide) (by decide) ⟨Nat.le_of_ble_eq_true rfl, Nat.le_of_ble_eq_true rfl⟩ rfl rfl (Nat.le_of_ble_eq_true rfl) eX5_init_33 (fun r w1 hp => ?_)
  obtain ⟨rfl, eq6, rfl⟩ := hp
  refine cb_putD C hin F5 hq7 fX5_26_X5f ⟨rfl, rfl⟩ (by decide) eX5_init_36 (fun F8 => ?_)
  refine v_aload_n C eX5_init_39 rfl 0 rfl ?_
  refine v_sipush (v := (128 : Int32)) C eX5_init_40 (by decide) ?_
  refine cb_BD C hin F8 rfl eX5_init_43 (rfl : (128 : Int32) = nI 128) (by decide) ⟨Nat.le_of_ble_eq_true rfl, Nat.le_of_ble_eq_true rfl⟩ fX5_29_X5f (fun _ => ⟨rfl, rfl⟩) (by decide) eX5_init_45 (fun a9 F10 => ?_)
  refine v_aload_n C eX5_init_48 rfl 0 rfl ?_
  refine v_bipush (v := (64 : Int32)) C eX5_init_49 (by decide) ?_
  refine cb_BD C hin F10 rfl eX5_init_51 (rfl : (64 : Int32) = nI 64) (by decide) ⟨Nat.le_of_ble_eq_true rfl, Nat.le_of_ble_eq_true rfl⟩ fX5_33_X5f (fun _ => ⟨rfl, rfl⟩) (by decide) eX5_init_53 (fun a11 F12 => ?_)
  refine v_aload_n C eX5_init_56 rfl 0 rfl ?_
  refine v_iconst (v := (4 : Int32)) C eX5_init_57 (by decide) ?_
  refine cb_BD C hin F12 rfl eX5_init_58 (rfl : (4 : Int32) = nI 4) (by decide) ⟨Nat.le_of_ble_eq_true rfl, Nat.le_of_ble_eq_true rfl⟩ fX5_36_X5f (fun _ => ⟨rfl, rfl⟩) (by decide) eX5_init_60 (fun a13 F14 => ?_)
  refine v_wide (k := 16) (n := 735) (Nat.le_of_ble_eq_true rfl) (Nat.le_of_ble_eq_true rfl) ?_
  exact v_vret C rfl eX5_init_63 ⟨rfl, _, rfl⟩

theorem fill_I {w0 : vW} {a n : Nat} {f : Nat → Int32} (v : Int32) (hn : n < 2 ^ 31) : vOk G B l yJ7_fill_53178 cJ7_fill_53178 4 none 0 0 0 [.ref a, .int v] (vUp w0 a (eI G n f)) (fun r w' => r = none ∧ ∃ f', w' = vUp w0 a (eI G n f')) := by
  refine vOk.of (by decide +kernel) (Nat.le_of_ble_eq_true rfl) ?_
  intro p e s m args below meth c C
  refine v_eq (lv' := [(0, .ref a), (1, .int v)]) rfl rfl rfl ?_
  refine v_iconst (v := (0 : Int32)) C eJ7_fill_53178_0 (by decide) ?_
  refine v_istore_n (lv' := [(0, .ref a), (1, .int v), (2, .int (nI 0))]) C eJ7_fill_53178_1 rfl (by decide) [1, 2, 0] rfl ?_
  refine v_aload_n C eJ7_fill_53178_2 rfl 0 rfl ?_
  refine v_alenI C eJ7_fill_53178_3 vUp_self ?_
  refine v_istore_n (lv' := [(0, .ref a), (1, .int v), (2, .int (nI 0)), (3, .int (nI n))]) C eJ7_fill_53178_4 rfl (by decide) [1, 2, 3, 0] rfl ?_
  suffices h : ∀ k i : Nat, i + k = n → ∀ f : Nat → Int32, V G B p l e (vRm 0 0 0) s m args below meth c 4 0 0 (MQ below (vQ G B (fun r w' => r = none ∧ ∃ f', w' = vUp w0 a (eI G n f'))) args s 0 0 (fun q => B ≤ q)) (vUp w0 a (eI G n f)) 5 [(0, .ref a), (1, .int v), (2, .int (nI i)), (3, .int (nI n))] [] from h n 0 (by omega) f
  intro k
  induction k with
  | zero =>
    intro i hi f
    refine v_iload_n C eJ7_fill_53178_5 rfl 2 rfl ?_
    refine v_iload_n C eJ7_fill_53178_6 rfl 3 rfl ?_
    refine v_icmp_ge (tgt := 20) C eJ7_fill_53178_7 (by decide) (fun _ => ?_) (fun h => absurd (ix_le (a := n) (b := i) rfl rfl (by omega) (by omega) (by omega)) h)
    exact v_vret C rfl eJ7_fill_53178_20 ⟨rfl, _, rfl⟩
  | succ k ih =>
    intro i hi f
    refine v_iload_n C eJ7_fill_53178_5 rfl 2 rfl ?_
    refine v_iload_n C eJ7_fill_53178_6 rfl 3 rfl ?_
    refine v_icmp_ge (tgt := 20) C eJ7_fill_53178_7 (by decide) (fun h => absurd h (ix_nle (a := n) (b := i) rfl rfl (by omega) (by omega) (by omega))) (fun _ => ?_)
    refine v_aload_n C eJ7_fill_53178_10 rfl 0 rfl ?_
    refine v_iload_n C eJ7_fill_53178_11 rfl 2 rfl ?_
    refine v_iload_n C eJ7_fill_53178_12 rfl 1 rfl ?_
    refine v_iast C eJ7_fill_53178_13 vUp_self i rfl (by omega) hn ?_
    refine v_iinc (lv' := [(0, .ref a), (1, .int v), (2, .int (nI (i + 1))), (3, .int (nI n))]) C eJ7_fill_53178_14 2 rfl (ix_inc _) (by decide) [1, 2, 0, 3] rfl ?_
    refine v_goto (tgt := 5) C eJ7_fill_53178_17 (by decide) ?_
    rw [vUp_two]
    exact ih (i + 1) (by omega) _
theorem vUp_none_o {w0 : vW} {o n a : Nat} {x : va_E} {fs : List Value} (F : oF w0 o n [(a, x)] fs) : a ≠ o := fun q => by
  have h := F.2.1
  subst q
  exact absurd h (by show vUp w0 _ _ _ ≠ none; rw [vUp_self]; simp)
theorem oF_fresh {w0 : vW} {o n a : Nat} {x y : va_E} {fs : List Value} (F : oF w0 o n [(a, x)] fs) : vUp w0 o y a = none := by
  rw [vUp_ne (vUp_none_o F)]
  exact F.1.1
set_option maxRecDepth 100000 in
set_option maxHeartbeats 4000000 in
theorem k_X1 {w0 : vW} {o : Nat} (h0 : w0 o = none) {q : Nat} : vOk G B l yX1_init cX1_init 2 none 2 4 2345 [.ref o, .ref q] (vUp w0 o (eO 1 zX1)) (fun r w' => r = none ∧ ∃ e, w' = vUp w0 o e) := by
  refine vOk.ofI (by decide +kernel) (Nat.le_of_ble_eq_true rfl) ?_
  intro p e s m args below meth c C hin
  have F : oF w0 o 7 [] zX1 := ⟨trivial, h0, rfl⟩
  refine v_eq (w' := vUp (lB w0 []) o (eO 1 zX1)) (lv' := [(0, .ref o), (1, .ref q)]) rfl rfl rfl ?_
  refine v_aload_n C eX1_init_0 rfl 0 rfl ?_
  refine v_objInit C rfl (by decide) oi_X1 eX1_init_1 (by decide) ?_
  refine v_aload_n C eX1_init_4 rfl 0 rfl ?_
  refine v_sipush (v := (2144 : Int32)) C eX1_init_5 (by decide) ?_
  refine cb_BD C hin F rfl eX1_init_8 (rfl : (2144 : Int32) = nI 2144) (by decide) ⟨Nat.le_of_ble_eq_true rfl, Nat.le_of_ble_eq_true rfl⟩ fX1_9_X1f (fun _ => ⟨rfl, rfl⟩) (by decide) eX1_init_10 (fun a1 F2 => ?_)
  refine v_aload_n C eX1_init_13 rfl 0 rfl ?_
  refine v_bipush (v := (67 : Int32)) C eX1_init_14 (by decide) ?_
  refine cb_ID C hin F2 rfl eX1_init_16 (rfl : (67 : Int32) = nI 67) (by decide) ⟨Nat.le_of_ble_eq_true rfl, Nat.le_of_ble_eq_true rfl⟩ fX1_13_X1f (fun _ => ⟨rfl, rfl⟩) (by decide) eX1_init_18 (fun a3 F4 => ?_)
  refine v_aload_n C eX1_init_21 rfl 0 rfl ?_
  refine v_bipush (v := (67 : Int32)) C eX1_init_22 (by decide) ?_
  refine cb_ID C hin F4 rfl eX1_init_24 (rfl : (67 : Int32) = nI 67) (by decide) ⟨Nat.le_of_ble_eq_true rfl, Nat.le_of_ble_eq_true rfl⟩ fX1_17_X1f (fun _ => ⟨rfl, rfl⟩) (by decide) eX1_init_26 (fun a5 F6 => ?_)
  refine v_aload_n C eX1_init_29 rfl 0 rfl ?_
  refine v_bipush (v := (67 : Int32)) C eX1_init_30 (by decide) ?_
  refine cb_I C hin F6 rfl eX1_init_32 (rfl : (67 : Int32) = nI 67) (by decide) ⟨Nat.le_of_ble_eq_true rfl, Nat.le_of_ble_eq_true rfl⟩ fX1_20_X1f (fun _ => ⟨rfl, rfl⟩) (by decide) eX1_init_34 (fun a7 F8 => ?_)
  refine v_aload_n C eX1_init_37 rfl 0 rfl ?_
  refine v_bipush (v := (16 : Int32)) C eX1_init_38 (by decide) ?_
  refine cb_set C F8 fX1_23_X1p ⟨rfl, rfl⟩ (by decide) eX1_init_40 (fun F9 => ?_)
  refine v_aload_n C eX1_init_43 rfl 0 rfl ?_
  refine v_bipush (v := (35 : Int32)) C eX1_init_44 (by decide) ?_
  refine cb_set C F9 fX1_27_X1p ⟨rfl, rfl⟩ (by decide) eX1_init_46 (fun F10 => ?_)
  refine v_aload_n C eX1_init_49 rfl 0 rfl ?_
  refine v_aload_n C eX1_init_50 rfl 1 rfl ?_
  refine cb_setF C hin F10 fX1_30_X1f ⟨rfl, rfl⟩ (by decide) eX1_init_51 (fun F11 => ?_)
  refine v_aload_n C eX1_init_54 rfl 0 rfl ?_
  refine v_get C fX1_20_X1 eX1_init_55 vUp_self rfl ?_
  refine v_bipush (v := (15 : Int32)) C eX1_init_58 (by decide) ?_
  refine v_eq (w' := vUp (vUp w0 o _) a7 (eI G 67 (fun _ => 0))) (vUp_com (vUp_none_o F11)) rfl rfl ?_
  refine v_callS (av := [.ref a7, .int (15 : Int32)]) (rest := []) C mX1_34 (fill_I _ (by decide)) rfl (by decide) (by decide) ⟨Nat.le_of_ble_eq_true rfl, Nat.le_of_ble_eq_true rfl⟩ rfl rfl (Nat.le_of_ble_eq_true rfl) eX1_init_60 (fun r w1 hp => ?_)
  obtain ⟨rfl, f1, rfl⟩ := hp
  refine v_drop (oF_fresh F11) ?_
  refine v_wide (k := 4) (n := 2345) (Nat.le_of_ble_eq_true rfl) (Nat.le_of_ble_eq_true rfl) ?_
  exact v_vret C rfl eX1_init_63 ⟨rfl, _, rfl⟩

set_option maxRecDepth 100000 in
set_option maxHeartbeats 4000000 in
theorem k_X10 {w0 : vW} {o : Nat} (h0 : w0 o = none) {q : Nat} : vOk G B l yX10_init cX10_init 2 none 3 9 4528 [.ref o, .ref q] (vUp w0 o (eO 7 zX10)) (fun r w' => r = none ∧ ∃ (x1 x2 x3 x4 x5 : Nat × va_E) (e : va_E), lF w0 [x1, x2, x3, x4, x5] ∧ lB w0 [x1, x2, x3, x4, x5] o = none ∧ w' = vUp (lB w0 [x1, x2, x3, x4, x5]) o e) := by
  refine vOk.ofI (by decide +kernel) (Nat.le_of_ble_eq_true rfl) ?_
  intro p e s m args below meth c C hin
  have F : oF w0 o 12 [] zX10 := ⟨trivial, h0, rfl⟩
  refine v_eq (w' := vUp (lB w0 []) o (eO 7 zX10)) (lv' := [(0, .ref o), (1, .ref q)]) rfl rfl rfl ?_
  refine v_aload_n C eX10_init_0 rfl 0 rfl ?_
  refine v_objInit C rfl (by decide) oi_X10 eX10_init_1 (by decide) ?_
  refine v_aload_n C eX10_init_4 rfl 0 rfl ?_
  refine v_bipush (v := (32 : Int32)) C eX10_init_5 (by decide) ?_
  refine cb_B C hin F rfl eX10_init_7 (rfl : (32 : Int32) = nI 32) (by decide) ⟨Nat.le_of_ble_eq_true rfl, Nat.le_of_ble_eq_true rfl⟩ fX10_7_X10f (fun _ => ⟨rfl, rfl⟩) (by decide) eX10_init_9 (fun a1 F2 => ?_)
  refine v_aload_n C eX10_init_12 rfl 0 rfl ?_
  refine v_bipush (v := (64 : Int32)) C eX10_init_13 (by decide) ?_
  refine cb_B C hin F2 rfl eX10_init_15 (rfl : (64 : Int32) = nI 64) (by decide) ⟨Nat.le_of_ble_eq_true rfl, Nat.le_of_ble_eq_true rfl⟩ fX10_13_X10f (fun _ => ⟨rfl, rfl⟩) (by decide) eX10_init_17 (fun a3 F4 => ?_)
  refine v_aload_n C eX10_init_20 rfl 0 rfl ?_
  refine v_sipush (v := (1120 : Int32)) C eX10_init_21 (by decide) ?_
  refine cb_B C hin F4 rfl eX10_init_24 (rfl : (1120 : Int32) = nI 1120) (by decide) ⟨Nat.le_of_ble_eq_true rfl, Nat.le_of_ble_eq_true rfl⟩ fX10_16_X10f (fun _ => ⟨rfl, rfl⟩) (by decide) eX10_init_26 (fun a5 F6 => ?_)
  refine v_aload_n C eX10_init_29 rfl 0 rfl ?_
  refine v_sipush (v := (960 : Int32)) C eX10_init_30 (by decide) ?_
  refine cb_B C hin F6 rfl eX10_init_33 (rfl : (960 : Int32) = nI 960) (by decide) ⟨Nat.le_of_ble_eq_true rfl, Nat.le_of_ble_eq_true rfl⟩ fX10_19_X10f (fun _ => ⟨rfl, rfl⟩) (by decide) eX10_init_35 (fun a7 F8 => ?_)
  refine v_aload_n C eX10_init_38 rfl 0 rfl ?_
  refine v_small C slX10_22 eX10_init_39 ?_
  refine cb_set C F8 fX10_28_X10p ⟨rfl, rfl⟩ (by decide) eX10_init_42 (fun F9 => ?_)
  refine v_aload_n C eX10_init_45 rfl 0 rfl ?_
  refine v_bipush (v := (16 : Int32)) C eX10_init_46 (by decide) ?_
  refine cb_set C F9 fX10_31_X10p ⟨rfl, rfl⟩ (by decide) eX10_init_48 (fun F10 => ?_)
  refine v_aload_n C eX10_init_51 rfl 0 rfl ?_
  refine v_lconst (v := (0 : Int64)) C eX10_init_52 (by decide) ?_
  refine cb_set C F10 fX10_35_X10p ⟨rfl, rfl⟩ (by decide) eX10_init_53 (fun F11 => ?_)
  refine v_aload_n C eX10_init_56 rfl 0 rfl ?_
  refine v_iconst (v := (0 : Int32)) C eX10_init_57 (by decide) ?_
  refine cb_set C F11 fX10_39_X10p ⟨rfl, rfl⟩ (by decide) eX10_init_58 (fun F12 => ?_)
  refine v_aload_n C eX10_init_61 rfl 0 rfl ?_
  refine v_iconst (v := (2 : Int32)) C eX10_init_62 (by decide) ?_
  refine cb_set C F12 fX10_44_X10p ⟨rfl, rfl⟩ (by decide) eX10_init_63 (fun F13 => ?_)
  refine v_aload_n C eX10_init_66 rfl 0 rfl ?_
  refine v_iconst (v := (0 : Int32)) C eX10_init_67 (by decide) ?_
  refine cb_set C F13 fX10_47_X10p ⟨rfl, rfl⟩ (by decide) eX10_init_68 (fun F14 => ?_)
  refine v_aload_n C eX10_init_71 rfl 0 rfl ?_
  refine v_aload_n C eX10_init_72 rfl 1 rfl ?_
  refine cb_setF C hin F14 fX10_50_X10f ⟨rfl, rfl⟩ (by decide) eX10_init_73 (fun F15 => ?_)
  refine v_aload_n C eX10_init_76 rfl 0 rfl ?_
  refine v_new C rfl nwX10_54 ⟨Nat.le_of_ble_eq_true rfl, Nat.le_of_ble_eq_true rfl⟩ eX10_init_77 (fun q16 hq17 _ => ?_)
  refine v_dup C eX10_init_80 rfl ?_
  refine v_aload_n C eX10_init_81 rfl 1 rfl ?_
  refine v_callI (rt := none) (As := [.ref q]) (rest := [.ref q16, .ref o]) C mX10_56 (k_X1 hq17) rfl (by decide) (by decide) ⟨Nat.le_of_ble_eq_true rfl, Nat.le_of_ble_eq_true rfl⟩ rfl rfl (Nat.le_of_ble_eq_true rfl) eX10_init_82 (fun r w1 hp => ?_)
  obtain ⟨rfl, ex, rfl⟩ := hp
  refine cb_put C hin F15 hq17 fX10_59_X10f ⟨rfl, rfl⟩ (by decide) eX10_init_85 (fun F18 => ?_)
  refine v_wide (k := 9) (n := 4528) (Nat.le_of_ble_eq_true rfl) (Nat.le_of_ble_eq_true rfl) ?_
  exact v_vret C rfl eX10_init_88 ⟨rfl, _, _, _, _, _, _, F18.1, F18.2.1, rfl⟩

end CN
