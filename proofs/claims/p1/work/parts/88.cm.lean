theorem eX11_checkSlot_0 : vD cX11_checkSlot 0 (.iload_n 0) 1 1 := ⟨by decide +kernel, rfl⟩
theorem eX11_checkSlot_1 : vD cX11_checkSlot 1 (.ifCond .lt 9) 3 4 := ⟨by decide +kernel, rfl⟩
theorem eX11_checkSlot_4 : vD cX11_checkSlot 4 (.iload_n 0) 1 5 := ⟨by decide +kernel, rfl⟩
theorem eX11_checkSlot_5 : vD cX11_checkSlot 5 (.bipush 8) 2 7 := ⟨by decide +kernel, rfl⟩
theorem eX11_checkSlot_7 : vD cX11_checkSlot 7 (.if_icmp .lt 13) 3 10 := ⟨by decide +kernel, rfl⟩
theorem eX11_checkSlot_10 : vD cX11_checkSlot 10 (.new 82) 3 13 := ⟨by decide +kernel, rfl⟩
theorem eX11_checkSlot_13 : vD cX11_checkSlot 13 .dup 1 14 := ⟨by decide +kernel, rfl⟩
theorem eX11_checkSlot_14 : vD cX11_checkSlot 14 (.ldc 192) 2 16 := ⟨by decide +kernel, rfl⟩
theorem eX11_checkSlot_16 : vD cX11_checkSlot 16 (.invokespecial 86) 3 19 := ⟨by decide +kernel, rfl⟩
theorem eX11_checkSlot_19 : vD cX11_checkSlot 19 .athrow 1 20 := ⟨by decide +kernel, rfl⟩
theorem eX11_checkSlot_20 : vD cX11_checkSlot 20 .return_ 1 21 := ⟨by decide +kernel, rfl⟩
theorem eX11_checkCount_0 : vD cX11_checkCount 0 (.iload_n 0) 1 1 := ⟨by decide +kernel, rfl⟩
theorem eX11_checkCount_1 : vD cX11_checkCount 1 (.ifCond .lt 9) 3 4 := ⟨by decide +kernel, rfl⟩
theorem eX11_checkCount_4 : vD cX11_checkCount 4 (.iload_n 0) 1 5 := ⟨by decide +kernel, rfl⟩
theorem eX11_checkCount_5 : vD cX11_checkCount 5 (.ldc 9) 2 7 := ⟨by decide +kernel, rfl⟩
theorem eX11_checkCount_7 : vD cX11_checkCount 7 (.if_icmp .le 13) 3 10 := ⟨by decide +kernel, rfl⟩
theorem eX11_checkCount_10 : vD cX11_checkCount 10 (.new 82) 3 13 := ⟨by decide +kernel, rfl⟩
theorem eX11_checkCount_13 : vD cX11_checkCount 13 .dup 1 14 := ⟨by decide +kernel, rfl⟩
theorem eX11_checkCount_14 : vD cX11_checkCount 14 (.ldc 194) 2 16 := ⟨by decide +kernel, rfl⟩
theorem eX11_checkCount_16 : vD cX11_checkCount 16 (.invokespecial 86) 3 19 := ⟨by decide +kernel, rfl⟩
theorem eX11_checkCount_19 : vD cX11_checkCount 19 .athrow 1 20 := ⟨by decide +kernel, rfl⟩
theorem eX11_checkCount_20 : vD cX11_checkCount 20 .return_ 1 21 := ⟨by decide +kernel, rfl⟩
theorem eX11_checkSet_0 : vD cX11_checkSet 0 (.iload_n 0) 1 1 := ⟨by decide +kernel, rfl⟩
theorem eX11_checkSet_1 : vD cX11_checkSet 1 (.ifCond .lt 9) 3 4 := ⟨by decide +kernel, rfl⟩
theorem eX11_checkSet_4 : vD cX11_checkSet 4 (.iload_n 0) 1 5 := ⟨by decide +kernel, rfl⟩
theorem eX11_checkSet_5 : vD cX11_checkSet 5 (.bipush 12) 2 7 := ⟨by decide +kernel, rfl⟩
theorem eX11_checkSet_7 : vD cX11_checkSet 7 (.if_icmp .lt 13) 3 10 := ⟨by decide +kernel, rfl⟩
theorem eX11_checkSet_10 : vD cX11_checkSet 10 (.new 82) 3 13 := ⟨by decide +kernel, rfl⟩
theorem eX11_checkSet_13 : vD cX11_checkSet 13 .dup 1 14 := ⟨by decide +kernel, rfl⟩
theorem eX11_checkSet_14 : vD cX11_checkSet 14 (.ldc 196) 2 16 := ⟨by decide +kernel, rfl⟩
theorem eX11_checkSet_16 : vD cX11_checkSet 16 (.invokespecial 86) 3 19 := ⟨by decide +kernel, rfl⟩
theorem eX11_checkSet_19 : vD cX11_checkSet 19 .athrow 1 20 := ⟨by decide +kernel, rfl⟩
theorem eX11_checkSet_20 : vD cX11_checkSet 20 .return_ 1 21 := ⟨by decide +kernel, rfl⟩
theorem eX11_checkHow_0 : vD cX11_checkHow 0 (.iload_n 0) 1 1 := ⟨by decide +kernel, rfl⟩
theorem eX11_checkHow_1 : vD cX11_checkHow 1 (.ifCond .eq 18) 3 4 := ⟨by decide +kernel, rfl⟩
theorem eX11_checkHow_4 : vD cX11_checkHow 4 (.iload_n 0) 1 5 := ⟨by decide +kernel, rfl⟩
theorem eX11_checkHow_5 : vD cX11_checkHow 5 (.iconst (-1)) 1 6 := ⟨by decide +kernel, rfl⟩
theorem eX11_checkHow_6 : vD cX11_checkHow 6 (.if_icmp .eq 13) 3 9 := ⟨by decide +kernel, rfl⟩
theorem eX11_checkHow_9 : vD cX11_checkHow 9 (.new 82) 3 12 := ⟨by decide +kernel, rfl⟩
theorem eX11_checkHow_12 : vD cX11_checkHow 12 .dup 1 13 := ⟨by decide +kernel, rfl⟩
theorem eX11_checkHow_13 : vD cX11_checkHow 13 (.ldc 198) 2 15 := ⟨by decide +kernel, rfl⟩
theorem eX11_checkHow_15 : vD cX11_checkHow 15 (.invokespecial 86) 3 18 := ⟨by decide +kernel, rfl⟩
theorem eX11_checkHow_18 : vD cX11_checkHow 18 .athrow 1 19 := ⟨by decide +kernel, rfl⟩
theorem eX11_checkHow_19 : vD cX11_checkHow 19 .return_ 1 20 := ⟨by decide +kernel, rfl⟩
theorem eX11_checkPlace_0 : vD cX11_checkPlace 0 (.iload_n 2) 1 1 := ⟨by decide +kernel, rfl⟩
theorem eX11_checkPlace_1 : vD cX11_checkPlace 1 (.ifCond .lt 13) 3 4 := ⟨by decide +kernel, rfl⟩
theorem eX11_checkPlace_4 : vD cX11_checkPlace 4 (.iload_n 2) 1 5 := ⟨by decide +kernel, rfl⟩
theorem eX11_checkPlace_5 : vD cX11_checkPlace 5 (.aload_n 0) 1 6 := ⟨by decide +kernel, rfl⟩
theorem eX11_checkPlace_6 : vD cX11_checkPlace 6 (.getfield 15) 3 9 := ⟨by decide +kernel, rfl⟩
theorem eX11_checkPlace_9 : vD cX11_checkPlace 9 (.iload_n 1) 1 10 := ⟨by decide +kernel, rfl⟩
theorem eX11_checkPlace_10 : vD cX11_checkPlace 10 .iaload 1 11 := ⟨by decide +kernel, rfl⟩
theorem eX11_checkPlace_11 : vD cX11_checkPlace 11 (.if_icmp .lt 13) 3 14 := ⟨by decide +kernel, rfl⟩
theorem eX11_checkPlace_14 : vD cX11_checkPlace 14 (.new 53) 3 17 := ⟨by decide +kernel, rfl⟩
theorem eX11_checkPlace_17 : vD cX11_checkPlace 17 .dup 1 18 := ⟨by decide +kernel, rfl⟩
theorem eX11_checkPlace_18 : vD cX11_checkPlace 18 (.ldc 200) 2 20 := ⟨by decide +kernel, rfl⟩
theorem eX11_checkPlace_20 : vD cX11_checkPlace 20 (.invokespecial 57) 3 23 := ⟨by decide +kernel, rfl⟩
theorem eX11_checkPlace_23 : vD cX11_checkPlace 23 .athrow 1 24 := ⟨by decide +kernel, rfl⟩
theorem eX11_checkPlace_24 : vD cX11_checkPlace 24 .return_ 1 25 := ⟨by decide +kernel, rfl⟩
theorem eX11_checkContext_0 : vD cX11_checkContext 0 (.iload_n 1) 1 1 := ⟨by decide +kernel, rfl⟩
theorem eX11_checkContext_1 : vD cX11_checkContext 1 (.ifCond .ne 25) 3 4 := ⟨by decide +kernel, rfl⟩
theorem eX11_checkContext_4 : vD cX11_checkContext 4 (.aload_n 0) 1 5 := ⟨by decide +kernel, rfl⟩
theorem eX11_checkContext_5 : vD cX11_checkContext 5 (.getfield 15) 3 8 := ⟨by decide +kernel, rfl⟩
theorem eX11_checkContext_8 : vD cX11_checkContext 8 (.iconst 4) 1 9 := ⟨by decide +kernel, rfl⟩
theorem eX11_checkContext_9 : vD cX11_checkContext 9 .iaload 1 10 := ⟨by decide +kernel, rfl⟩
theorem eX11_checkContext_10 : vD cX11_checkContext 10 (.sipush 255) 3 13 := ⟨by decide +kernel, rfl⟩
theorem eX11_checkContext_13 : vD cX11_checkContext 13 (.if_icmp .le 13) 3 16 := ⟨by decide +kernel, rfl⟩
theorem eX11_checkContext_16 : vD cX11_checkContext 16 (.new 107) 3 19 := ⟨by decide +kernel, rfl⟩
theorem eX11_checkContext_19 : vD cX11_checkContext 19 .dup 1 20 := ⟨by decide +kernel, rfl⟩
theorem eX11_checkContext_20 : vD cX11_checkContext 20 (.ldc 202) 2 22 := ⟨by decide +kernel, rfl⟩
theorem eX11_checkContext_22 : vD cX11_checkContext 22 (.invokespecial 111) 3 25 := ⟨by decide +kernel, rfl⟩
theorem eX11_checkContext_25 : vD cX11_checkContext 25 .athrow 1 26 := ⟨by decide +kernel, rfl⟩
theorem eX11_checkContext_26 : vD cX11_checkContext 26 .return_ 1 27 := ⟨by decide +kernel, rfl⟩
theorem eX11_checkSecret_0 : vD cX11_checkSecret 0 (.aload_n 0) 1 1 := ⟨by decide +kernel, rfl⟩
theorem eX11_checkSecret_1 : vD cX11_checkSecret 1 (.getfield 15) 3 4 := ⟨by decide +kernel, rfl⟩
theorem eX11_checkSecret_4 : vD cX11_checkSecret 4 (.iconst 2) 1 5 := ⟨by decide +kernel, rfl⟩
theorem eX11_checkSecret_5 : vD cX11_checkSecret 5 .iaload 1 6 := ⟨by decide +kernel, rfl⟩
theorem eX11_checkSecret_6 : vD cX11_checkSecret 6 (.iconst 4) 1 7 := ⟨by decide +kernel, rfl⟩
theorem eX11_checkSecret_7 : vD cX11_checkSecret 7 (.aload_n 1) 1 8 := ⟨by decide +kernel, rfl⟩
theorem eX11_checkSecret_8 : vD cX11_checkSecret 8 (.getfield 102) 3 11 := ⟨by decide +kernel, rfl⟩
theorem eX11_checkSecret_11 : vD cX11_checkSecret 11 .imul 1 12 := ⟨by decide +kernel, rfl⟩
theorem eX11_checkSecret_12 : vD cX11_checkSecret 12 (.if_icmp .eq 13) 3 15 := ⟨by decide +kernel, rfl⟩
theorem eX11_checkSecret_15 : vD cX11_checkSecret 15 (.new 171) 3 18 := ⟨by decide +kernel, rfl⟩
theorem eX11_checkSecret_18 : vD cX11_checkSecret 18 .dup 1 19 := ⟨by decide +kernel, rfl⟩
theorem eX11_checkSecret_19 : vD cX11_checkSecret 19 (.ldc 204) 2 21 := ⟨by decide +kernel, rfl⟩
theorem eX11_checkSecret_21 : vD cX11_checkSecret 21 (.invokespecial 175) 3 24 := ⟨by decide +kernel, rfl⟩
theorem eX11_checkSecret_24 : vD cX11_checkSecret 24 .athrow 1 25 := ⟨by decide +kernel, rfl⟩
theorem eX11_checkSecret_25 : vD cX11_checkSecret 25 .return_ 1 26 := ⟨by decide +kernel, rfl⟩
theorem eX11_sizesOf_0 : vD cX11_sizesOf 0 (.getstatic 206) 3 3 := ⟨by decide +kernel, rfl⟩
theorem eX11_sizesOf_3 : vD cX11_sizesOf 3 (.iload_n 0) 1 4 := ⟨by decide +kernel, rfl⟩
theorem eX11_sizesOf_4 : vD cX11_sizesOf 4 (.bipush 6) 2 6 := ⟨by decide +kernel, rfl⟩
theorem eX11_sizesOf_6 : vD cX11_sizesOf 6 .irem 1 7 := ⟨by decide +kernel, rfl⟩
theorem eX11_sizesOf_7 : vD cX11_sizesOf 7 .aaload 1 8 := ⟨by decide +kernel, rfl⟩
theorem eX11_sizesOf_8 : vD cX11_sizesOf 8 .areturn 1 9 := ⟨by decide +kernel, rfl⟩
theorem eX11_putOnTape_0 : vD cX11_putOnTape 0 (.bipush 24) 2 2 := ⟨by decide +kernel, rfl⟩
theorem eX11_putOnTape_2 : vD cX11_putOnTape 2 (.istore_n 2) 1 3 := ⟨by decide +kernel, rfl⟩
theorem eX11_putOnTape_3 : vD cX11_putOnTape 3 (.iload_n 2) 1 4 := ⟨by decide +kernel, rfl⟩
theorem eX11_putOnTape_4 : vD cX11_putOnTape 4 (.ifCond .lt 32) 3 7 := ⟨by decide +kernel, rfl⟩
theorem eX11_putOnTape_7 : vD cX11_putOnTape 7 (.aload_n 0) 1 8 := ⟨by decide +kernel, rfl⟩
theorem eX11_putOnTape_8 : vD cX11_putOnTape 8 (.getfield 19) 3 11 := ⟨by decide +kernel, rfl⟩
theorem eX11_putOnTape_11 : vD cX11_putOnTape 11 (.aload_n 0) 1 12 := ⟨by decide +kernel, rfl⟩
theorem eX11_putOnTape_12 : vD cX11_putOnTape 12 (.getfield 23) 3 15 := ⟨by decide +kernel, rfl⟩
theorem eX11_putOnTape_15 : vD cX11_putOnTape 15 (.iload_n 1) 1 16 := ⟨by decide +kernel, rfl⟩
theorem eX11_putOnTape_16 : vD cX11_putOnTape 16 (.iload_n 2) 1 17 := ⟨by decide +kernel, rfl⟩
theorem eX11_putOnTape_17 : vD cX11_putOnTape 17 .iushr 1 18 := ⟨by decide +kernel, rfl⟩
theorem eX11_putOnTape_18 : vD cX11_putOnTape 18 .i2b 1 19 := ⟨by decide +kernel, rfl⟩
theorem eX11_putOnTape_19 : vD cX11_putOnTape 19 .bastore 1 20 := ⟨by decide +kernel, rfl⟩
theorem eX11_putOnTape_20 : vD cX11_putOnTape 20 (.aload_n 0) 1 21 := ⟨by decide +kernel, rfl⟩
theorem eX11_putOnTape_21 : vD cX11_putOnTape 21 .dup 1 22 := ⟨by decide +kernel, rfl⟩
theorem eX11_putOnTape_22 : vD cX11_putOnTape 22 (.getfield 23) 3 25 := ⟨by decide +kernel, rfl⟩
theorem eX11_putOnTape_25 : vD cX11_putOnTape 25 (.iconst 1) 1 26 := ⟨by decide +kernel, rfl⟩
theorem eX11_putOnTape_26 : vD cX11_putOnTape 26 .iadd 1 27 := ⟨by decide +kernel, rfl⟩
theorem eX11_putOnTape_27 : vD cX11_putOnTape 27 (.putfield 23) 3 30 := ⟨by decide +kernel, rfl⟩
theorem eX11_putOnTape_30 : vD cX11_putOnTape 30 (.iinc 2 (-8)) 3 33 := ⟨by decide +kernel, rfl⟩
theorem eX11_putOnTape_33 : vD cX11_putOnTape 33 (.goto (-30)) 3 36 := ⟨by decide +kernel, rfl⟩
theorem eX11_putOnTape_36 : vD cX11_putOnTape 36 .return_ 1 37 := ⟨by decide +kernel, rfl⟩
theorem eX11_setSlot_0 : vD cX11_setSlot 0 (.aload_n 2) 1 1 := ⟨by decide +kernel, rfl⟩
theorem eX11_setSlot_1 : vD cX11_setSlot 1 (.iconst 0) 1 2 := ⟨by decide +kernel, rfl⟩
theorem eX11_setSlot_2 : vD cX11_setSlot 2 (.aload_n 0) 1 3 := ⟨by decide +kernel, rfl⟩
theorem eX11_setSlot_3 : vD cX11_setSlot 3 (.getfield 12) 3 6 := ⟨by decide +kernel, rfl⟩
theorem eX11_setSlot_6 : vD cX11_setSlot 6 (.iload_n 1) 1 7 := ⟨by decide +kernel, rfl⟩
theorem eX11_setSlot_7 : vD cX11_setSlot 7 .aaload 1 8 := ⟨by decide +kernel, rfl⟩
theorem eX11_setSlot_8 : vD cX11_setSlot 8 (.iconst 0) 1 9 := ⟨by decide +kernel, rfl⟩
theorem eX11_setSlot_9 : vD cX11_setSlot 9 (.iload_n 3) 1 10 := ⟨by decide +kernel, rfl⟩
theorem eX11_setSlot_10 : vD cX11_setSlot 10 (.invokestatic 134) 3 13 := ⟨by decide +kernel, rfl⟩
theorem eX11_setSlot_13 : vD cX11_setSlot 13 (.aload_n 0) 1 14 := ⟨by decide +kernel, rfl⟩
theorem eX11_setSlot_14 : vD cX11_setSlot 14 (.getfield 15) 3 17 := ⟨by decide +kernel, rfl⟩
theorem eX11_setSlot_17 : vD cX11_setSlot 17 (.iload_n 1) 1 18 := ⟨by decide +kernel, rfl⟩
theorem eX11_setSlot_18 : vD cX11_setSlot 18 (.iload_n 3) 1 19 := ⟨by decide +kernel, rfl⟩
theorem eX11_setSlot_19 : vD cX11_setSlot 19 .iastore 1 20 := ⟨by decide +kernel, rfl⟩
theorem eX11_setSlot_20 : vD cX11_setSlot 20 .return_ 1 21 := ⟨by decide +kernel, rfl⟩
theorem eX11_alike_0 : vD cX11_alike 0 (.iconst 0) 1 1 := ⟨by decide +kernel, rfl⟩
theorem eX11_alike_1 : vD cX11_alike 1 (.istore 4) 2 3 := ⟨by decide +kernel, rfl⟩
theorem eX11_alike_3 : vD cX11_alike 3 (.iload 4) 2 5 := ⟨by decide +kernel, rfl⟩
theorem eX11_alike_5 : vD cX11_alike 5 (.iload_n 3) 1 6 := ⟨by decide +kernel, rfl⟩
theorem eX11_alike_6 : vD cX11_alike 6 (.if_icmp .ge 24) 3 9 := ⟨by decide +kernel, rfl⟩
theorem eX11_alike_9 : vD cX11_alike 9 (.aload_n 0) 1 10 := ⟨by decide +kernel, rfl⟩
theorem eX11_alike_10 : vD cX11_alike 10 (.iload 4) 2 12 := ⟨by decide +kernel, rfl⟩
theorem eX11_alike_12 : vD cX11_alike 12 .baload 1 13 := ⟨by decide +kernel, rfl⟩
theorem eX11_alike_13 : vD cX11_alike 13 (.aload_n 1) 1 14 := ⟨by decide +kernel, rfl⟩
theorem eX11_alike_14 : vD cX11_alike 14 (.iload_n 2) 1 15 := ⟨by decide +kernel, rfl⟩
theorem eX11_alike_15 : vD cX11_alike 15 (.iload 4) 2 17 := ⟨by decide +kernel, rfl⟩
theorem eX11_alike_17 : vD cX11_alike 17 .iadd 1 18 := ⟨by decide +kernel, rfl⟩
theorem eX11_alike_18 : vD cX11_alike 18 .baload 1 19 := ⟨by decide +kernel, rfl⟩
theorem eX11_alike_19 : vD cX11_alike 19 (.if_icmp .eq 5) 3 22 := ⟨by decide +kernel, rfl⟩
theorem eX11_alike_22 : vD cX11_alike 22 (.iconst 0) 1 23 := ⟨by decide +kernel, rfl⟩
theorem eX11_alike_23 : vD cX11_alike 23 .ireturn 1 24 := ⟨by decide +kernel, rfl⟩
theorem eX11_alike_24 : vD cX11_alike 24 (.iinc 4 1) 3 27 := ⟨by decide +kernel, rfl⟩
theorem eX11_alike_27 : vD cX11_alike 27 (.goto (-24)) 3 30 := ⟨by decide +kernel, rfl⟩
theorem eX11_alike_30 : vD cX11_alike 30 (.iconst 1) 1 31 := ⟨by decide +kernel, rfl⟩
theorem eX11_alike_31 : vD cX11_alike 31 .ireturn 1 32 := ⟨by decide +kernel, rfl⟩
theorem eJ7_fill_eb02e_0 : vD cJ7_fill_eb02e 0 (.aload_n 0) 1 1 := ⟨by decide +kernel, rfl⟩
theorem eJ7_fill_eb02e_1 : vD cJ7_fill_eb02e 1 .arraylength 1 2 := ⟨by decide +kernel, rfl⟩
theorem eJ7_fill_eb02e_2 : vD cJ7_fill_eb02e 2 (.iload_n 1) 1 3 := ⟨by decide +kernel, rfl⟩
theorem eJ7_fill_eb02e_3 : vD cJ7_fill_eb02e 3 (.iload_n 2) 1 4 := ⟨by decide +kernel, rfl⟩
theorem eJ7_fill_eb02e_4 : vD cJ7_fill_eb02e 4 (.invokestatic 13) 3 7 := ⟨by decide +kernel, rfl⟩
theorem eJ7_fill_eb02e_7 : vD cJ7_fill_eb02e 7 (.iload_n 1) 1 8 := ⟨by decide +kernel, rfl⟩
theorem eJ7_fill_eb02e_8 : vD cJ7_fill_eb02e 8 (.istore 4) 2 10 := ⟨by decide +kernel, rfl⟩
theorem eJ7_fill_eb02e_10 : vD cJ7_fill_eb02e 10 (.iload 4) 2 12 := ⟨by decide +kernel, rfl⟩
theorem eJ7_fill_eb02e_12 : vD cJ7_fill_eb02e 12 (.iload_n 2) 1 13 := ⟨by decide +kernel, rfl⟩
theorem eJ7_fill_eb02e_13 : vD cJ7_fill_eb02e 13 (.if_icmp .ge 14) 3 16 := ⟨by decide +kernel, rfl⟩
theorem eJ7_fill_eb02e_16 : vD cJ7_fill_eb02e 16 (.aload_n 0) 1 17 := ⟨by decide +kernel, rfl⟩
theorem eJ7_fill_eb02e_17 : vD cJ7_fill_eb02e 17 (.iload 4) 2 19 := ⟨by decide +kernel, rfl⟩
theorem eJ7_fill_eb02e_19 : vD cJ7_fill_eb02e 19 (.iload_n 3) 1 20 := ⟨by decide +kernel, rfl⟩
theorem eJ7_fill_eb02e_20 : vD cJ7_fill_eb02e 20 .bastore 1 21 := ⟨by decide +kernel, rfl⟩
theorem eJ7_fill_eb02e_21 : vD cJ7_fill_eb02e 21 (.iinc 4 1) 3 24 := ⟨by decide +kernel, rfl⟩
theorem eJ7_fill_eb02e_24 : vD cJ7_fill_eb02e 24 (.goto (-14)) 3 27 := ⟨by decide +kernel, rfl⟩
theorem eJ7_fill_eb02e_27 : vD cJ7_fill_eb02e 27 .return_ 1 28 := ⟨by decide +kernel, rfl⟩
theorem eJ7_rangeCheck_23922_0 : vD cJ7_rangeCheck_23922 0 (.iload_n 1) 1 1 := ⟨by decide +kernel, rfl⟩
theorem eJ7_rangeCheck_23922_1 : vD cJ7_rangeCheck_23922 1 (.iload_n 2) 1 2 := ⟨by decide +kernel, rfl⟩
theorem eJ7_rangeCheck_23922_2 : vD cJ7_rangeCheck_23922 2 (.if_icmp .le 44) 3 5 := ⟨by decide +kernel, rfl⟩
theorem eJ7_rangeCheck_23922_5 : vD cJ7_rangeCheck_23922 5 (.new 43) 3 8 := ⟨by decide +kernel, rfl⟩
theorem eJ7_rangeCheck_23922_8 : vD cJ7_rangeCheck_23922 8 .dup 1 9 := ⟨by decide +kernel, rfl⟩
theorem eJ7_rangeCheck_23922_9 : vD cJ7_rangeCheck_23922 9 (.new 45) 3 12 := ⟨by decide +kernel, rfl⟩
theorem eJ7_rangeCheck_23922_12 : vD cJ7_rangeCheck_23922 12 .dup 1 13 := ⟨by decide +kernel, rfl⟩
theorem eJ7_rangeCheck_23922_13 : vD cJ7_rangeCheck_23922 13 (.invokespecial 47) 3 16 := ⟨by decide +kernel, rfl⟩
theorem eJ7_rangeCheck_23922_16 : vD cJ7_rangeCheck_23922 16 (.ldc 48) 2 18 := ⟨by decide +kernel, rfl⟩
theorem eJ7_rangeCheck_23922_18 : vD cJ7_rangeCheck_23922 18 (.invokevirtual 50) 3 21 := ⟨by decide +kernel, rfl⟩
theorem eJ7_rangeCheck_23922_21 : vD cJ7_rangeCheck_23922 21 (.iload_n 1) 1 22 := ⟨by decide +kernel, rfl⟩
theorem eJ7_rangeCheck_23922_22 : vD cJ7_rangeCheck_23922 22 (.invokevirtual 54) 3 25 := ⟨by decide +kernel, rfl⟩
theorem eJ7_rangeCheck_23922_25 : vD cJ7_rangeCheck_23922 25 (.ldc 57) 2 27 := ⟨by decide +kernel, rfl⟩
theorem eJ7_rangeCheck_23922_27 : vD cJ7_rangeCheck_23922 27 (.invokevirtual 50) 3 30 := ⟨by decide +kernel, rfl⟩
theorem eJ7_rangeCheck_23922_30 : vD cJ7_rangeCheck_23922 30 (.iload_n 2) 1 31 := ⟨by decide +kernel, rfl⟩
theorem eJ7_rangeCheck_23922_31 : vD cJ7_rangeCheck_23922 31 (.invokevirtual 54) 3 34 := ⟨by decide +kernel, rfl⟩
theorem eJ7_rangeCheck_23922_34 : vD cJ7_rangeCheck_23922 34 (.ldc 59) 2 36 := ⟨by decide +kernel, rfl⟩
theorem eJ7_rangeCheck_23922_36 : vD cJ7_rangeCheck_23922 36 (.invokevirtual 50) 3 39 := ⟨by decide +kernel, rfl⟩
theorem eJ7_rangeCheck_23922_39 : vD cJ7_rangeCheck_23922 39 (.invokevirtual 61) 3 42 := ⟨by decide +kernel, rfl⟩
theorem eJ7_rangeCheck_23922_42 : vD cJ7_rangeCheck_23922 42 (.invokespecial 65) 3 45 := ⟨by decide +kernel, rfl⟩
theorem eJ7_rangeCheck_23922_45 : vD cJ7_rangeCheck_23922 45 .athrow 1 46 := ⟨by decide +kernel, rfl⟩
theorem eJ7_rangeCheck_23922_46 : vD cJ7_rangeCheck_23922 46 (.iload_n 1) 1 47 := ⟨by decide +kernel, rfl⟩
theorem eJ7_rangeCheck_23922_47 : vD cJ7_rangeCheck_23922 47 (.ifCond .ge 12) 3 50 := ⟨by decide +kernel, rfl⟩
theorem eJ7_rangeCheck_23922_50 : vD cJ7_rangeCheck_23922 50 (.new 68) 3 53 := ⟨by decide +kernel, rfl⟩
theorem eJ7_rangeCheck_23922_53 : vD cJ7_rangeCheck_23922 53 .dup 1 54 := ⟨by decide +kernel, rfl⟩
theorem eJ7_rangeCheck_23922_54 : vD cJ7_rangeCheck_23922 54 (.iload_n 1) 1 55 := ⟨by decide +kernel, rfl⟩
theorem eJ7_rangeCheck_23922_55 : vD cJ7_rangeCheck_23922 55 (.invokespecial 70) 3 58 := ⟨by decide +kernel, rfl⟩
theorem eJ7_rangeCheck_23922_58 : vD cJ7_rangeCheck_23922 58 .athrow 1 59 := ⟨by decide +kernel, rfl⟩
theorem eJ7_rangeCheck_23922_59 : vD cJ7_rangeCheck_23922 59 (.iload_n 2) 1 60 := ⟨by decide +kernel, rfl⟩
theorem eJ7_rangeCheck_23922_60 : vD cJ7_rangeCheck_23922 60 (.iload_n 0) 1 61 := ⟨by decide +kernel, rfl⟩
theorem eJ7_rangeCheck_23922_61 : vD cJ7_rangeCheck_23922 61 (.if_icmp .le 12) 3 64 := ⟨by decide +kernel, rfl⟩
theorem eJ7_rangeCheck_23922_64 : vD cJ7_rangeCheck_23922 64 (.new 68) 3 67 := ⟨by decide +kernel, rfl⟩
theorem eJ7_rangeCheck_23922_67 : vD cJ7_rangeCheck_23922 67 .dup 1 68 := ⟨by decide +kernel, rfl⟩
theorem eJ7_rangeCheck_23922_68 : vD cJ7_rangeCheck_23922 68 (.iload_n 2) 1 69 := ⟨by decide +kernel, rfl⟩
theorem eJ7_rangeCheck_23922_69 : vD cJ7_rangeCheck_23922 69 (.invokespecial 70) 3 72 := ⟨by decide +kernel, rfl⟩
theorem eJ7_rangeCheck_23922_72 : vD cJ7_rangeCheck_23922 72 .athrow 1 73 := ⟨by decide +kernel, rfl⟩
theorem eJ7_rangeCheck_23922_73 : vD cJ7_rangeCheck_23922 73 .return_ 1 74 := ⟨by decide +kernel, rfl⟩

/-! the class's methods on a fresh object: checks, and what they call -/
theorem i_lt_le {a b p : Int32} (h : a.toInt + 1 = b.toInt) : p < b ↔ p ≤ a := by rw [Int32.lt_iff_toInt_lt, Int32.le_iff_toInt_le]; omega
theorem nW_self {ad : Nat → Nat} {N : Nat} {σ : nS} (I : nI1 ad N) {k : Nat} (hk : k < N) {x : va_E} (h : σ k = x) : vUp (nW ad N σ) (ad k) x = nW ad N σ := by
  rw [nW_up I hk]
  congr 1
  funext j
  by_cases q : j = k
  · subst q; simp [va_up, h]
  · simp [va_up, q]
/-- a fresh HashTreeSigner: names 74 .. 85 -/
def CF (G : vG) (ad : Nat → Nat) (x4 x6 x7 : Nat) (σ : nS) : Prop := σ 74 = eO 8 [.ref (ad 75), .ref (ad 84), .ref (ad 85), .int 0, .ref x4, .int 0, .ref x6, .ref x7] ∧ σ 75 = eR G 8 (eRf ad 76 8) ∧ (∀ i, i < 8 → σ (76 + i) = eB G 65536 (fun _ => 0)) ∧ σ 84 = eI G 8 (fun _ => 0) ∧ σ 85 = eB G 65536 (fun _ => 0)
def cK (σ σ' : nS) : Prop := ∀ k, ¬ (74 ≤ k ∧ k ≤ 85) → σ' k = σ k
section CM
variable {G : vG} {B : Nat} {l : Launch} {ad : Nat → Nat} {N : Nat} {x4 x6 x7 : Nat} {σ : nS} {w : vW}
set_option maxRecDepth 100000 in
set_option maxHeartbeats 4000000 in
theorem f_checkSlot (hl : l.stackTraces = false) (q : Int32) : xOk G B l yX11_checkSlot cX11_checkSlot 1 none 6 1 6 [.int q] w (fun r w' => r = none ∧ w' = w ∧ 0 ≤ q ∧ q ≤ 7) w (fun E => E = eIAE ∧ ¬ (0 ≤ q ∧ q ≤ 7)) := by
  refine xOk.of (by decide +kernel) (Nat.le_of_ble_eq_true rfl) ?_
  intro p e s m args below meth c C hnt
  refine v_eq (lv' := [(0, .int q)]) rfl rfl rfl ?_
  refine v_iload_n C eX11_checkSlot_0 rfl 0 rfl ?_
  refine v_if_lt (tgt := 10) C eX11_checkSlot_1 (by decide) (fun c1 => ?_) (fun c1 => ?_)
  · exact x_throw hl C hnt (text := "no such slot") xIAE (by decide) rfl (by decide) eX11_checkSlot_10 eX11_checkSlot_13 eX11_checkSlot_14 eX11_checkSlot_16 eX11_checkSlot_19 ⟨rfl, fun h => absurd (Int32.not_lt.mpr h.1) (not_not_intro c1)⟩ (by decide) ⟨Nat.le_of_ble_eq_true rfl, Nat.le_of_ble_eq_true rfl⟩ ⟨Nat.le_of_ble_eq_true rfl, Nat.le_of_ble_eq_true rfl⟩ (fun _ _ h => h)
  · refine v_iload_n C eX11_checkSlot_4 rfl 0 rfl ?_
    refine v_bipush (v := (8 : Int32)) C eX11_checkSlot_5 (by decide) ?_
    refine v_icmp_lt (tgt := 20) C eX11_checkSlot_7 (by decide) (fun c2 => ?_) (fun c2 => ?_)
    · refine x_ret ?_
      refine v_wide (k := 1) (n := 6) (Nat.le_of_ble_eq_true rfl) (Nat.le_of_ble_eq_true rfl) ?_
      exact v_vret C rfl eX11_checkSlot_20 ⟨rfl, rfl, Int32.not_lt.mp c1, ((i_lt_le (by decide)).mp c2)⟩
    · exact x_throw hl C hnt (text := "no such slot") xIAE (by decide) rfl (by decide) eX11_checkSlot_10 eX11_checkSlot_13 eX11_checkSlot_14 eX11_checkSlot_16 eX11_checkSlot_19 ⟨rfl, fun h => c2 ((i_lt_le (by decide)).mpr h.2)⟩ (by decide) ⟨Nat.le_of_ble_eq_true rfl, Nat.le_of_ble_eq_true rfl⟩ ⟨Nat.le_of_ble_eq_true rfl, Nat.le_of_ble_eq_true rfl⟩ (fun _ _ h => h)

set_option maxRecDepth 100000 in
set_option maxHeartbeats 4000000 in
theorem f_checkCount (hl : l.stackTraces = false) (q : Int32) : xOk G B l yX11_checkCount cX11_checkCount 1 none 6 1 6 [.int q] w (fun r w' => r = none ∧ w' = w ∧ 0 ≤ q ∧ q ≤ 65536) w (fun E => E = eIAE ∧ ¬ (0 ≤ q ∧ q ≤ 65536)) := by
  refine xOk.of (by decide +kernel) (Nat.le_of_ble_eq_true rfl) ?_
  intro p e s m args below meth c C hnt
  refine v_eq (lv' := [(0, .int q)]) rfl rfl rfl ?_
  refine v_iload_n C eX11_checkCount_0 rfl 0 rfl ?_
  refine v_if_lt (tgt := 10) C eX11_checkCount_1 (by decide) (fun c1 => ?_) (fun c1 => ?_)
  · exact x_throw hl C hnt (text := "no slot has so many bytes") xIAE (by decide) rfl (by decide) eX11_checkCount_10 eX11_checkCount_13 eX11_checkCount_14 eX11_checkCount_16 eX11_checkCount_19 ⟨rfl, fun h => absurd (Int32.not_lt.mpr h.1) (not_not_intro c1)⟩ (by decide) ⟨Nat.le_of_ble_eq_true rfl, Nat.le_of_ble_eq_true rfl⟩ ⟨Nat.le_of_ble_eq_true rfl, Nat.le_of_ble_eq_true rfl⟩ (fun _ _ h => h)
  · refine v_iload_n C eX11_checkCount_4 rfl 0 rfl ?_
    refine v_ldc (v := (65536 : Int32)) C eX11_checkCount_5 vw_43 ?_
    refine v_icmp_le (tgt := 20) C eX11_checkCount_7 (by decide) (fun c2 => ?_) (fun c2 => ?_)
    · refine x_ret ?_
      refine v_wide (k := 1) (n := 6) (Nat.le_of_ble_eq_true rfl) (Nat.le_of_ble_eq_true rfl) ?_
      exact v_vret C rfl eX11_checkCount_20 ⟨rfl, rfl, Int32.not_lt.mp c1, c2⟩
    · exact x_throw hl C hnt (text := "no slot has so many bytes") xIAE (by decide) rfl (by decide) eX11_checkCount_10 eX11_checkCount_13 eX11_checkCount_14 eX11_checkCount_16 eX11_checkCount_19 ⟨rfl, fun h => c2 h.2⟩ (by decide) ⟨Nat.le_of_ble_eq_true rfl, Nat.le_of_ble_eq_true rfl⟩ ⟨Nat.le_of_ble_eq_true rfl, Nat.le_of_ble_eq_true rfl⟩ (fun _ _ h => h)

set_option maxRecDepth 100000 in
set_option maxHeartbeats 4000000 in
theorem f_checkSet (hl : l.stackTraces = false) (q : Int32) : xOk G B l yX11_checkSet cX11_checkSet 1 none 6 1 6 [.int q] w (fun r w' => r = none ∧ w' = w ∧ 0 ≤ q ∧ q ≤ 11) w (fun E => E = eIAE ∧ ¬ (0 ≤ q ∧ q ≤ 11)) := by
  refine xOk.of (by decide +kernel) (Nat.le_of_ble_eq_true rfl) ?_
  intro p e s m args below meth c C hnt
  refine v_eq (lv' := [(0, .int q)]) rfl rfl rfl ?_
  refine v_iload_n C eX11_checkSet_0 rfl 0 rfl ?_
  refine v_if_lt (tgt := 10) C eX11_checkSet_1 (by decide) (fun c1 => ?_) (fun c1 => ?_)
  · exact x_throw hl C hnt (text := "no such set") xIAE (by decide) rfl (by decide) eX11_checkSet_10 eX11_checkSet_13 eX11_checkSet_14 eX11_checkSet_16 eX11_checkSet_19 ⟨rfl, fun h => absurd (Int32.not_lt.mpr h.1) (not_not_intro c1)⟩ (by decide) ⟨Nat.le_of_ble_eq_true rfl, Nat.le_of_ble_eq_true rfl⟩ ⟨Nat.le_of_ble_eq_true rfl, Nat.le_of_ble_eq_true rfl⟩ (fun _ _ h => h)
  · refine v_iload_n C eX11_checkSet_4 rfl 0 rfl ?_
    refine v_bipush (v := (12 : Int32)) C eX11_checkSet_5 (by decide) ?_
    refine v_icmp_lt (tgt := 20) C eX11_checkSet_7 (by decide) (fun c2 => ?_) (fun c2 => ?_)
    · refine x_ret ?_
      refine v_wide (k := 1) (n := 6) (Nat.le_of_ble_eq_true rfl) (Nat.le_of_ble_eq_true rfl) ?_
      exact v_vret C rfl eX11_checkSet_20 ⟨rfl, rfl, Int32.not_lt.mp c1, ((i_lt_le (by decide)).mp c2)⟩
    · exact x_throw hl C hnt (text := "no such set") xIAE (by decide) rfl (by decide) eX11_checkSet_10 eX11_checkSet_13 eX11_checkSet_14 eX11_checkSet_16 eX11_checkSet_19 ⟨rfl, fun h => c2 ((i_lt_le (by decide)).mpr h.2)⟩ (by decide) ⟨Nat.le_of_ble_eq_true rfl, Nat.le_of_ble_eq_true rfl⟩ ⟨Nat.le_of_ble_eq_true rfl, Nat.le_of_ble_eq_true rfl⟩ (fun _ _ h => h)

set_option maxRecDepth 100000 in
set_option maxHeartbeats 4000000 in
theorem f_checkHow (hl : l.stackTraces = false) (q : Int32) : xOk G B l yX11_checkHow cX11_checkHow 1 none 6 1 6 [.int q] w (fun r w' => r = none ∧ w' = w ∧ (q = 0 ∨ q = -1)) w (fun E => E = eIAE ∧ ¬ (q = 0 ∨ q = -1)) := by
  refine xOk.of (by decide +kernel) (Nat.le_of_ble_eq_true rfl) ?_
  intro p e s m args below meth c C hnt
  refine v_eq (lv' := [(0, .int q)]) rfl rfl rfl ?_
  refine v_iload_n C eX11_checkHow_0 rfl 0 rfl ?_
  refine v_if_eq (tgt := 19) C eX11_checkHow_1 (by decide) (fun c1 => ?_) (fun c1 => ?_)
  · refine x_ret ?_
    refine v_wide (k := 1) (n := 6) (Nat.le_of_ble_eq_true rfl) (Nat.le_of_ble_eq_true rfl) ?_
    exact v_vret C rfl eX11_checkHow_19 ⟨rfl, rfl, Or.inl c1⟩
  · refine v_iload_n C eX11_checkHow_4 rfl 0 rfl ?_
    refine v_iconst (v := (-1 : Int32)) C eX11_checkHow_5 (by decide) ?_
    refine v_icmp_eq (tgt := 19) C eX11_checkHow_6 (by decide) (fun c2 => ?_) (fun c2 => ?_)
    · refine x_ret ?_
      refine v_wide (k := 1) (n := 6) (Nat.le_of_ble_eq_true rfl) (Nat.le_of_ble_eq_true rfl) ?_
      exact v_vret C rfl eX11_checkHow_19 ⟨rfl, rfl, Or.inr c2⟩
    · exact x_throw hl C hnt (text := "how is neither 0 nor -1") xIAE (by decide) rfl (by decide) eX11_checkHow_9 eX11_checkHow_12 eX11_checkHow_13 eX11_checkHow_15 eX11_checkHow_18 ⟨rfl, fun h => h.elim c1 c2⟩ (by decide) ⟨Nat.le_of_ble_eq_true rfl, Nat.le_of_ble_eq_true rfl⟩ ⟨Nat.le_of_ble_eq_true rfl, Nat.le_of_ble_eq_true rfl⟩ (fun _ _ h => h)

set_option maxRecDepth 100000 in
set_option maxHeartbeats 4000000 in
theorem f_checkPlace (hl : l.stackTraces = false) (I : nI1 ad N) (hN : ∀ k, k < 86 → k < N) (F : CF G ad x4 x6 x7 σ) (q i : Int32) (hq : ixN q ≤ 7 ∧ q = nI (ixN q)) : xOk G B l yX11_checkPlace cX11_checkPlace 3 none 6 1 6 [.ref (ad 74), .int q, .int i] (nW ad N σ) (fun r w' => False) (nW ad N σ) (fun E => E = eIOB) := by
  refine xOk.of (by decide +kernel) (Nat.le_of_ble_eq_true rfl) ?_
  intro p e s m args below meth c C hnt
  refine v_eq (lv' := [(0, .ref (ad 74)), (1, .int q), (2, .int i)]) rfl rfl rfl ?_
  refine v_iload_n C eX11_checkPlace_0 rfl 2 rfl ?_
  refine v_if_lt (tgt := 14) C eX11_checkPlace_1 (by decide) (fun c1 => ?_) (fun c1 => ?_)
  · exact x_throw hl C hnt (text := "the slot has no such byte") xIOB (by decide) rfl (by decide) eX11_checkPlace_14 eX11_checkPlace_17 eX11_checkPlace_18 eX11_checkPlace_20 eX11_checkPlace_23 rfl (by decide) ⟨Nat.le_of_ble_eq_true rfl, Nat.le_of_ble_eq_true rfl⟩ ⟨Nat.le_of_ble_eq_true rfl, Nat.le_of_ble_eq_true rfl⟩ (fun _ _ h => h)
  · refine v_iload_n C eX11_checkPlace_4 rfl 2 rfl ?_
    refine v_aload_n C eX11_checkPlace_5 rfl 0 rfl ?_
    refine n_get C I fX11_15_X11 eX11_checkPlace_6 (hN 74 (by decide)) F.1 rfl ?_
    refine v_iload_n C eX11_checkPlace_9 rfl 1 rfl ?_
    refine n_iald C I eX11_checkPlace_10 (hN 84 (by decide)) F.2.2.2.1 (ixN q) hq.2 (by omega) (by decide) ?_
    refine v_icmp_lt (tgt := 24) C eX11_checkPlace_11 (by decide) (fun c2 => ?_) (fun c2 => ?_)
    · exact absurd c2 c1
    · exact x_throw hl C hnt (text := "the slot has no such byte") xIOB (by decide) rfl (by decide) eX11_checkPlace_14 eX11_checkPlace_17 eX11_checkPlace_18 eX11_checkPlace_20 eX11_checkPlace_23 rfl (by decide) ⟨Nat.le_of_ble_eq_true rfl, Nat.le_of_ble_eq_true rfl⟩ ⟨Nat.le_of_ble_eq_true rfl, Nat.le_of_ble_eq_true rfl⟩ (fun _ _ h => h)

set_option maxRecDepth 100000 in
set_option maxHeartbeats 4000000 in
theorem f_checkContext (hl : l.stackTraces = false) (I : nI1 ad N) (hN : ∀ k, k < 86 → k < N) (F : CF G ad x4 x6 x7 σ) (q : Int32) : xOk G B l yX11_checkContext cX11_checkContext 2 none 6 1 6 [.ref (ad 74), .int q] (nW ad N σ) (fun r w' => r = none ∧ w' = nW ad N σ) (nW ad N σ) (fun E => False) := by
  refine xOk.of (by decide +kernel) (Nat.le_of_ble_eq_true rfl) ?_
  intro p e s m args below meth c C hnt
  refine v_eq (lv' := [(0, .ref (ad 74)), (1, .int q)]) rfl rfl rfl ?_
  refine v_iload_n C eX11_checkContext_0 rfl 1 rfl ?_
  refine v_if_ne (tgt := 26) C eX11_checkContext_1 (by decide) (fun c1 => ?_) (fun c1 => ?_)
  · refine x_ret ?_
    refine v_wide (k := 1) (n := 6) (Nat.le_of_ble_eq_true rfl) (Nat.le_of_ble_eq_true rfl) ?_
    exact v_vret C rfl eX11_checkContext_26 ⟨rfl, rfl⟩
  · refine v_aload_n C eX11_checkContext_4 rfl 0 rfl ?_
    refine n_get C I fX11_15_X11 eX11_checkContext_5 (hN 74 (by decide)) F.1 rfl ?_
    refine v_iconst (v := (4 : Int32)) C eX11_checkContext_8 (by decide) ?_
    refine n_iald C I eX11_checkContext_9 (hN 84 (by decide)) F.2.2.2.1 4 (rfl : (4 : Int32) = nI 4) (by omega) (by decide) ?_
    refine v_sipush (v := (255 : Int32)) C eX11_checkContext_10 (by decide) ?_
    refine v_icmp_le (tgt := 26) C eX11_checkContext_13 (by decide) (fun _ => ?_) (fun h => absurd (by decide : (0 : Int32) ≤ 255) h)
    refine x_ret ?_
    refine v_wide (k := 1) (n := 6) (Nat.le_of_ble_eq_true rfl) (Nat.le_of_ble_eq_true rfl) ?_
    exact v_vret C rfl eX11_checkContext_26 ⟨rfl, rfl⟩

theorem en_n : ∀ j, j < 6 → ¬ (0 : Int32) = 4 * ([16, 16, 24, 24, 32, 32] : List Int32).getD j 0 ∧ ¬ (0 : Int32) = 3 * ([16, 16, 24, 24, 32, 32] : List Int32).getD j 0 ∧ ¬ (0 : Int32) = 2 * ([16, 16, 24, 24, 32, 32] : List Int32).getD j 0 := by decide
set_option maxRecDepth 100000 in
set_option maxHeartbeats 4000000 in
theorem f_checkSecret (hl : l.stackTraces = false) (I : nI1 ad N) (hN : ∀ k, k < 86 → k < N) (F : CF G ad x4 x6 x7 σ) (j : Nat) (hj : j < 6) : xOk G B l yX11_checkSecret cX11_checkSecret 2 none 6 1 6 [.ref (ad 74), .ref (G.2 (20 + j))] (nW ad N σ) (fun r w' => False) (nW ad N σ) (fun E => E = eUOE) := by
  refine xOk.of (by decide +kernel) (Nat.le_of_ble_eq_true rfl) ?_
  intro p e s m args below meth c C hnt
  refine v_eq (lv' := [(0, .ref (ad 74)), (1, .ref (G.2 (20 + j)))]) rfl rfl rfl ?_
  refine v_aload_n C eX11_checkSecret_0 rfl 0 rfl ?_
  refine n_get C I fX11_15_X11 eX11_checkSecret_1 (hN 74 (by decide)) F.1 rfl ?_
  refine v_iconst (v := (2 : Int32)) C eX11_checkSecret_4 (by decide) ?_
  refine n_iald C I eX11_checkSecret_5 (hN 84 (by decide)) F.2.2.2.1 2 (rfl : (2 : Int32) = nI 2) (by omega) (by decide) ?_
  refine v_iconst (v := (4 : Int32)) C eX11_checkSecret_6 (by decide) ?_
  refine v_aload_n C eX11_checkSecret_7 rfl 1 rfl ?_
  refine v_getE C j hj "n" [16, 16, 24, 24, 32, 32] (by decide) slX11_102 eX11_checkSecret_8 ?_
  refine v_imul C eX11_checkSecret_11 ?_
  refine v_icmp_eq (tgt := 25) C eX11_checkSecret_12 (by decide) (fun h => absurd h (en_n j hj).1) (fun _ => ?_)
  exact x_throw hl C hnt (text := "SECRET is no key of this set") xUOE (by decide) rfl (by decide) eX11_checkSecret_15 eX11_checkSecret_18 eX11_checkSecret_19 eX11_checkSecret_21 eX11_checkSecret_24 rfl (by decide) ⟨Nat.le_of_ble_eq_true rfl, Nat.le_of_ble_eq_true rfl⟩ ⟨Nat.le_of_ble_eq_true rfl, Nat.le_of_ble_eq_true rfl⟩ (fun _ _ h => h)

set_option maxRecDepth 100000 in
set_option maxHeartbeats 4000000 in
theorem f_sizesOf (q : Int32) (hq : ixN q ≤ 11 ∧ q = nI (ixN q)) : vOk G B l yX11_sizesOf cX11_sizesOf 1 (some (.object "HashTreeSigner$Sizes")) 0 0 0 [.int q] w (fun r w' => r = some (.ref (G.2 (20 + ixN q % 6))) ∧ w' = w) := by
  refine vOk.of (by decide +kernel) (Nat.le_of_ble_eq_true rfl) ?_
  intro p e s m args below meth c C
  refine v_eq (lv' := [(0, .int q)]) rfl rfl rfl ?_
  refine v_sizes C slX11_206 eX11_sizesOf_0 ?_
  refine v_iload_n C eX11_sizesOf_3 rfl 0 rfl ?_
  refine v_bipush (v := (6 : Int32)) C eX11_sizesOf_4 (by decide) ?_
  refine v_irem C eX11_sizesOf_6 (by decide) ?_
  refine v_sizeAt C (ixN q % 6) (ix_rem (a := ixN q) (d := 6) hq.2 (rfl : (6 : Int32) = nI 6) (by omega) (by omega) (by omega)) (by omega) eX11_sizesOf_7 ?_
  exact v_aret C rfl (Or.inl ⟨_, rfl⟩) eX11_sizesOf_8 ⟨rfl, rfl⟩

set_option maxRecDepth 100000 in
set_option maxHeartbeats 4000000 in
theorem f_alike {a b : Nat} : vOk G B l yX11_alike cX11_alike 5 (some .boolean) 0 0 0 [.ref a, .ref b, .int ((0 : Int32)), .int ((0 : Int32))] w (fun r w' => r = some (.int 1) ∧ w' = w) := by
  refine vOk.of (by decide +kernel) (Nat.le_of_ble_eq_true rfl) ?_
  intro p e s m args below meth c C
  refine v_eq (lv' := [(0, .ref a), (1, .ref b), (2, .int ((0 : Int32))), (3, .int ((0 : Int32)))]) rfl rfl rfl ?_
  refine v_iconst (v := (0 : Int32)) C eX11_alike_0 (by decide) ?_
  refine v_istore (lv' := [(0, .ref a), (1, .ref b), (2, .int ((0 : Int32))), (3, .int ((0 : Int32))), (4, .int ((0 : Int32)))]) C eX11_alike_1 (by decide) [1, 2, 3, 4, 0] rfl ?_
  refine v_iload C eX11_alike_3 4 rfl ?_
  refine v_iload_n C eX11_alike_5 rfl 3 rfl ?_
  refine v_icmp_ge (tgt := 30) C eX11_alike_6 (by decide) (fun _ => ?_) (fun h => absurd (by decide : (0 : Int32) ≤ 0) h)
  refine v_iconst (v := (1 : Int32)) C eX11_alike_30 (by decide) ?_
  exact v_zret C rfl (by decide) eX11_alike_31 ⟨rfl, rfl⟩

set_option maxRecDepth 100000 in
set_option maxHeartbeats 4000000 in
theorem f_range {n0 : Int32} (nn : Nat) (hn0 : n0 = nI nn) (hnn : nn ≤ 65536) : vOk G B l yJ7_rangeCheck_23922 cJ7_rangeCheck_23922 3 none 0 0 0 [.int (nI 65536), .int ((0 : Int32)), .int n0] w (fun r w' => r = none ∧ w' = w) := by
  refine vOk.of (by decide +kernel) (Nat.le_of_ble_eq_true rfl) ?_
  intro p e s m args below meth c C
  refine v_eq (lv' := [(0, .int (nI 65536)), (1, .int ((0 : Int32))), (2, .int n0)]) rfl rfl rfl ?_
  refine v_iload_n C eJ7_rangeCheck_23922_0 rfl 1 rfl ?_
  refine v_iload_n C eJ7_rangeCheck_23922_1 rfl 2 rfl ?_
  refine v_icmp_le (tgt := 46) C eJ7_rangeCheck_23922_2 (by decide) (fun _ => ?_) (fun h => absurd (ix_le (a := 0) (b := nn) rfl hn0 (by omega) (by omega) (by omega)) h)
  refine v_iload_n C eJ7_rangeCheck_23922_46 rfl 1 rfl ?_
  refine v_if_ge (tgt := 59) C eJ7_rangeCheck_23922_47 (by decide) (fun _ => ?_) (fun h => absurd (by decide : (0 : Int32) ≤ 0) h)
  refine v_iload_n C eJ7_rangeCheck_23922_59 rfl 2 rfl ?_
  refine v_iload_n C eJ7_rangeCheck_23922_60 rfl 0 rfl ?_
  refine v_icmp_le (tgt := 73) C eJ7_rangeCheck_23922_61 (by decide) (fun _ => ?_) (fun h => absurd (ix_le (a := nn) (b := 65536) hn0 rfl (by omega) (by omega) (by omega)) h)
  exact v_vret C rfl eJ7_rangeCheck_23922_73 ⟨rfl, rfl⟩

theorem f_fill {w0 : vW} {a : Nat} {f : Nat → Int32} {n0 : Int32} (nn : Nat) (hn0 : n0 = nI nn) (hnn : nn ≤ 65536) : vOk G B l yJ7_fill_eb02e cJ7_fill_eb02e 5 none 1 0 0 [.ref a, .int 0, .int n0, .int 0] (vUp w0 a (eB G 65536 f)) (fun r w' => r = none ∧ ∃ f', w' = vUp w0 a (eB G 65536 f')) := by
  subst hn0
  refine vOk.of (by decide +kernel) (Nat.le_of_ble_eq_true rfl) ?_
  intro p e s m args below meth c C
  refine v_eq (lv' := [(0, .ref a), (1, .int 0), (2, .int (nI nn)), (3, .int 0)]) rfl rfl rfl ?_
  refine v_aload_n C eJ7_fill_eb02e_0 rfl 0 rfl ?_
  refine v_alenB C eJ7_fill_eb02e_1 vUp_self ?_
  refine v_iload_n C eJ7_fill_eb02e_2 rfl 1 rfl ?_
  refine v_iload_n C eJ7_fill_eb02e_3 rfl 2 rfl ?_
  refine v_callS (av := [.int (nI 65536), .int 0, .int (nI nn)]) (rest := []) C mJ7_13 (f_range nn rfl hnn) rfl (by decide) (by decide) ⟨Nat.le_of_ble_eq_true rfl, Nat.le_of_ble_eq_true rfl⟩ rfl rfl (Nat.le_of_ble_eq_true rfl) eJ7_fill_eb02e_4 (fun r w' hp => ?_)
  obtain ⟨rfl, rfl⟩ := hp
  refine v_iload_n C eJ7_fill_eb02e_7 rfl 1 rfl ?_
  refine v_istore (lv' := [(0, .ref a), (1, .int 0), (2, .int (nI nn)), (3, .int 0), (4, .int (nI 0))]) C eJ7_fill_eb02e_8 (by decide) [1, 2, 3, 4, 0] rfl ?_
  suffices h : ∀ k i : Nat, i + k = nn → ∀ f : Nat → Int32, V G B p l e (vRm 1 0 0) s m args below meth c 5 0 0 (MQ below (vQ G B (fun r w' => r = none ∧ ∃ f', w' = vUp w0 a (eB G 65536 f'))) args s 0 0 (fun q => B ≤ q)) (vUp w0 a (eB G 65536 f)) 10 [(0, .ref a), (1, .int 0), (2, .int (nI nn)), (3, .int 0), (4, .int (nI i))] [] from h nn 0 (by omega) f
  intro k
  induction k with
  | zero =>
    intro i hi f
    refine v_iload C eJ7_fill_eb02e_10 4 rfl ?_
    refine v_iload_n C eJ7_fill_eb02e_12 rfl 2 rfl ?_
    refine v_icmp_ge (tgt := 27) C eJ7_fill_eb02e_13 (by decide) (fun _ => ?_) (fun h => absurd (ix_le (a := nn) (b := i) rfl rfl (by omega) (by omega) (by omega)) h)
    exact v_vret C rfl eJ7_fill_eb02e_27 ⟨rfl, _, rfl⟩
  | succ k ih =>
    intro i hi f
    refine v_iload C eJ7_fill_eb02e_10 4 rfl ?_
    refine v_iload_n C eJ7_fill_eb02e_12 rfl 2 rfl ?_
    refine v_icmp_ge (tgt := 27) C eJ7_fill_eb02e_13 (by decide) (fun h => absurd h (ix_nle (a := nn) (b := i) rfl rfl (by omega) (by omega) (by omega))) (fun _ => ?_)
    refine v_aload_n C eJ7_fill_eb02e_16 rfl 0 rfl ?_
    refine v_iload C eJ7_fill_eb02e_17 4 rfl ?_
    refine v_iload_n C eJ7_fill_eb02e_19 rfl 3 rfl ?_
    refine v_bast C eJ7_fill_eb02e_20 vUp_self i rfl (by omega) (by decide) ?_
    refine v_iinc (lv' := [(0, .ref a), (1, .int 0), (2, .int (nI nn)), (3, .int 0), (4, .int (nI (i + 1)))]) C eJ7_fill_eb02e_21 4 rfl (ix_inc _) (by decide) [1, 2, 3, 4, 0] rfl ?_
    refine v_goto (tgt := 10) C eJ7_fill_eb02e_24 (by decide) ?_
    rw [vUp_two]
    exact ih (i + 1) (by omega) _
theorem CF.ref (h : CF G ad x4 x6 x7 σ) {j : Nat} (hj : j < 8) : σ (76 + j) = eB G 65536 (fun _ => 0) := h.2.2.1 j hj
theorem upd_zero {j : Nat} : upd (fun _ => (0 : Int32)) j 0 = fun _ => 0 := by
  funext i
  by_cases h : i = j <;> simp [upd, h]
set_option maxRecDepth 100000 in
set_option maxHeartbeats 4000000 in
theorem f_setSlot (I : nI1 ad N) (hN : ∀ k, k < 86 → k < N) (F : CF G ad x4 x6 x7 σ) (q : Int32) (hq : ixN q ≤ 7 ∧ q = nI (ixN q)) {k0 : Nat} (hk0 : k0 < N) {f : Nat → Int32} (h0 : σ k0 = eB G 65536 f) : nOk G B l ad N yX11_setSlot cX11_setSlot 4 none 1 0 0 [.ref (ad 74), .int q, .ref (ad k0), .int 0] σ (fun r σ' => r = none ∧ σ' 74 = σ 74 ∧ σ' 84 = eI G 8 (fun _ => 0) ∧ cK σ σ') := by
  refine vOk.of (by decide +kernel) (Nat.le_of_ble_eq_true rfl) ?_
  intro p e s m args below meth c C
  refine v_eq (lv' := [(0, .ref (ad 74)), (1, .int q), (2, .ref (ad k0)), (3, .int 0)]) rfl rfl rfl ?_
  refine v_aload_n C eX11_setSlot_0 rfl 2 rfl ?_
  refine v_iconst (v := (0 : Int32)) C eX11_setSlot_1 (by decide) ?_
  refine v_aload_n C eX11_setSlot_2 rfl 0 rfl ?_
  refine n_get C I fX11_12_X11 eX11_setSlot_3 (hN 74 (by decide)) F.1 rfl ?_
  refine v_iload_n C eX11_setSlot_6 rfl 1 rfl ?_
  refine n_aald (b := ad (76 + ixN q)) C I eX11_setSlot_7 (hN 75 (by decide)) F.2.1 (ixN q) hq.2 (by omega) (by decide) (eRf_at (by omega)) ?_
  refine v_iconst (v := (0 : Int32)) C eX11_setSlot_8 (by decide) ?_
  refine v_iload_n C eX11_setSlot_9 rfl 3 rfl ?_
  refine v_copyB C vw_cpyX11 eX11_setSlot_10 ((nW_at I hk0).trans (congrArg some h0)) ((nW_at I (hN (76 + ixN q) (by omega))).trans (congrArg some (F.ref (by omega)))) 0 0 0 rfl rfl rfl (Nat.le_of_ble_eq_true rfl) (by decide) (by decide) (by decide) (fun i hi => absurd hi (Nat.not_lt_zero i)) rfl (by decide) (by decide) ?_
  rw [nW_up I (hN (76 + ixN q) (by omega))]
  have g74 : ∀ e, va_up σ (76 + ixN q) e 74 = σ 74 := fun e => n_ne (by omega)
  have g84 : ∀ e, va_up σ (76 + ixN q) e 84 = σ 84 := fun e => n_ne (by omega)
  refine v_aload_n C eX11_setSlot_13 rfl 0 rfl ?_
  refine n_get C I fX11_15_X11 eX11_setSlot_14 (hN 74 (by decide)) ((g74 _).trans F.1) rfl ?_
  refine v_iload_n C eX11_setSlot_17 rfl 1 rfl ?_
  refine v_iload_n C eX11_setSlot_18 rfl 3 rfl ?_
  refine n_iast C I eX11_setSlot_19 (hN 84 (by decide)) ((g84 _).trans F.2.2.2.1) (ixN q) hq.2 (by omega) (by decide) ?_
  exact n_vret C rfl eX11_setSlot_20 ⟨rfl, by rw [n_ne (by decide), g74], by rw [n_self, upd_zero], fun k hk => by rw [n_ne (by omega), n_ne (by omega)]⟩
set_option maxRecDepth 100000 in
set_option maxHeartbeats 4000000 in
theorem f_putOnTape (I : nI1 ad N) (hN : ∀ k, k < 86 → k < N) (v : Int32) (tn : Nat) (ht : tn ≤ 65000) {f : Nat → Int32} (h74 : σ 74 = eO 8 [.ref (ad 75), .ref (ad 84), .ref (ad 85), .int (nI tn), .ref x4, .int 0, .ref x6, .ref x7]) (h85 : σ 85 = eB G 65536 f) : nOk G B l ad N yX11_putOnTape cX11_putOnTape 3 none 0 0 0 [.ref (ad 74), .int v] σ (fun r σ' => r = none ∧ σ' 74 = eO 8 [.ref (ad 75), .ref (ad 84), .ref (ad 85), .int (nI (tn + 4)), .ref x4, .int 0, .ref x6, .ref x7] ∧ (∃ f', σ' 85 = eB G 65536 f') ∧ cK σ σ') := by
  refine vOk.of (by decide +kernel) (Nat.le_of_ble_eq_true rfl) ?_
  intro p e s m args below meth c C
  refine v_eq (lv' := [(0, .ref (ad 74)), (1, .int v)]) rfl rfl rfl ?_
  refine v_bipush (v := (24 : Int32)) C eX11_putOnTape_0 (by decide) ?_
  refine v_istore_n (lv' := [(0, .ref (ad 74)), (1, .int v), (2, .int ((24 : Int32)))]) C eX11_putOnTape_2 rfl (by decide) [1, 2, 0] rfl ?_
  refine v_iload_n C eX11_putOnTape_3 rfl 2 rfl ?_
  refine v_if_lt (tgt := 36) C eX11_putOnTape_4 (by decide) (fun h => absurd h (by decide : ¬ (24 : Int32) < 0)) (fun _ => ?_)
  refine v_aload_n C eX11_putOnTape_7 rfl 0 rfl ?_
  refine n_get C I fX11_19_X11 eX11_putOnTape_8 (hN 74 (by decide)) h74 rfl ?_
  refine v_aload_n C eX11_putOnTape_11 rfl 0 rfl ?_
  refine n_get C I fX11_23_X11 eX11_putOnTape_12 (hN 74 (by decide)) h74 rfl ?_
  refine v_iload_n C eX11_putOnTape_15 rfl 1 rfl ?_
  refine v_iload_n C eX11_putOnTape_16 rfl 2 rfl ?_
  refine v_iushr C eX11_putOnTape_17 ?_
  refine v_i2b C eX11_putOnTape_18 ?_
  refine v_topi (fun b0_1 hb0_1 => ?_)
  refine n_bast C I eX11_putOnTape_19 (hN 85 (by decide)) h85 tn (rfl : nI tn = nI tn) (by omega) (by decide) ?_
  refine v_aload_n C eX11_putOnTape_20 rfl 0 rfl ?_
  refine v_dup C eX11_putOnTape_21 rfl ?_
  refine n_get C I fX11_23_X11 eX11_putOnTape_22 (hN 74 (by decide)) h74 rfl ?_
  refine v_iconst (v := (1 : Int32)) C eX11_putOnTape_25 (by decide) ?_
  refine v_iadd C eX11_putOnTape_26 ?_
  refine v_natT (show (nI tn) + ((1 : Int32)) = nI (tn + 1) from (ix_add (a := tn) (b := 1) (rfl : nI tn = nI tn) (rfl : (1 : Int32) = nI 1))) ?_
  refine n_put (fs' := [.ref (ad 75), .ref (ad 84), .ref (ad 85), .int (nI (tn + 1)), .ref x4, .int ((0 : Int32)), .ref x6, .ref x7]) C I fX11_23_X11p eX11_putOnTape_27 (hN 74 (by decide)) h74 rfl rfl (Nat.le_of_ble_eq_true rfl) rfl ?_
  refine v_iinc (lv' := [(0, .ref (ad 74)), (1, .int v), (2, .int ((16 : Int32)))]) C eX11_putOnTape_30 2 rfl (by decide) (by decide) [1, 2, 0] rfl ?_
  refine v_goto (tgt := 3) C eX11_putOnTape_33 (by decide) ?_
  refine v_iload_n C eX11_putOnTape_3 rfl 2 rfl ?_
  refine v_if_lt (tgt := 36) C eX11_putOnTape_4 (by decide) (fun h => absurd h (by decide : ¬ (16 : Int32) < 0)) (fun _ => ?_)
  refine v_aload_n C eX11_putOnTape_7 rfl 0 rfl ?_
  refine n_get C I fX11_19_X11 eX11_putOnTape_8 (hN 74 (by decide)) rfl rfl ?_
  refine v_aload_n C eX11_putOnTape_11 rfl 0 rfl ?_
  refine n_get C I fX11_23_X11 eX11_putOnTape_12 (hN 74 (by decide)) rfl rfl ?_
  refine v_iload_n C eX11_putOnTape_15 rfl 1 rfl ?_
  refine v_iload_n C eX11_putOnTape_16 rfl 2 rfl ?_
  refine v_iushr C eX11_putOnTape_17 ?_
  refine v_i2b C eX11_putOnTape_18 ?_
  refine v_topi (fun b1_2 hb1_2 => ?_)
  refine n_bast C I eX11_putOnTape_19 (hN 85 (by decide)) rfl (tn + 1) (rfl : nI (tn + 1) = nI (tn + 1)) (by omega) (by decide) ?_
  refine v_aload_n C eX11_putOnTape_20 rfl 0 rfl ?_
  refine v_dup C eX11_putOnTape_21 rfl ?_
  refine n_get C I fX11_23_X11 eX11_putOnTape_22 (hN 74 (by decide)) rfl rfl ?_
  refine v_iconst (v := (1 : Int32)) C eX11_putOnTape_25 (by decide) ?_
  refine v_iadd C eX11_putOnTape_26 ?_
  refine v_natT (show (nI (tn + 1)) + ((1 : Int32)) = nI ((tn + 1) + 1) from (ix_add (a := tn + 1) (b := 1) (rfl : nI (tn + 1) = nI (tn + 1)) (rfl : (1 : Int32) = nI 1))) ?_
  refine n_put (fs' := [.ref (ad 75), .ref (ad 84), .ref (ad 85), .int (nI ((tn + 1) + 1)), .ref x4, .int ((0 : Int32)), .ref x6, .ref x7]) C I fX11_23_X11p eX11_putOnTape_27 (hN 74 (by decide)) rfl rfl rfl (Nat.le_of_ble_eq_true rfl) rfl ?_
  refine v_iinc (lv' := [(0, .ref (ad 74)), (1, .int v), (2, .int ((8 : Int32)))]) C eX11_putOnTape_30 2 rfl (by decide) (by decide) [1, 2, 0] rfl ?_
  refine v_goto (tgt := 3) C eX11_putOnTape_33 (by decide) ?_
  refine v_iload_n C eX11_putOnTape_3 rfl 2 rfl ?_
  refine v_if_lt (tgt := 36) C eX11_putOnTape_4 (by decide) (fun h => absurd h (by decide : ¬ (8 : Int32) < 0)) (fun _ => ?_)
  refine v_aload_n C eX11_putOnTape_7 rfl 0 rfl ?_
  refine n_get C I fX11_19_X11 eX11_putOnTape_8 (hN 74 (by decide)) rfl rfl ?_
  refine v_aload_n C eX11_putOnTape_11 rfl 0 rfl ?_
  refine n_get C I fX11_23_X11 eX11_putOnTape_12 (hN 74 (by decide)) rfl rfl ?_
  refine v_iload_n C eX11_putOnTape_15 rfl 1 rfl ?_
  refine v_iload_n C eX11_putOnTape_16 rfl 2 rfl ?_
  refine v_iushr C eX11_putOnTape_17 ?_
  refine v_i2b C eX11_putOnTape_18 ?_
  refine v_topi (fun b2_3 hb2_3 => ?_)
  refine n_bast C I eX11_putOnTape_19 (hN 85 (by decide)) rfl ((tn + 1) + 1) (rfl : nI ((tn + 1) + 1) = nI ((tn + 1) + 1)) (by omega) (by decide) ?_
  refine v_aload_n C eX11_putOnTape_20 rfl 0 rfl ?_
  refine v_dup C eX11_putOnTape_21 rfl ?_
  refine n_get C I fX11_23_X11 eX11_putOnTape_22 (hN 74 (by decide)) rfl rfl ?_
  refine v_iconst (v := (1 : Int32)) C eX11_putOnTape_25 (by decide) ?_
  refine v_iadd C eX11_putOnTape_26 ?_
  refine v_natT (show (nI ((tn + 1) + 1)) + ((1 : Int32)) = nI (((tn + 1) + 1) + 1) from (ix_add (a := (tn + 1) + 1) (b := 1) (rfl : nI ((tn + 1) + 1) = nI ((tn + 1) + 1)) (rfl : (1 : Int32) = nI 1))) ?_
  refine n_put (fs' := [.ref (ad 75), .ref (ad 84), .ref (ad 85), .int (nI (((tn + 1) + 1) + 1)), .ref x4, .int ((0 : Int32)), .ref x6, .ref x7]) C I fX11_23_X11p eX11_putOnTape_27 (hN 74 (by decide)) rfl rfl rfl (Nat.le_of_ble_eq_true rfl) rfl ?_
  refine v_iinc (lv' := [(0, .ref (ad 74)), (1, .int v), (2, .int ((0 : Int32)))]) C eX11_putOnTape_30 2 rfl (by decide) (by decide) [1, 2, 0] rfl ?_
  refine v_goto (tgt := 3) C eX11_putOnTape_33 (by decide) ?_
  refine v_iload_n C eX11_putOnTape_3 rfl 2 rfl ?_
  refine v_if_lt (tgt := 36) C eX11_putOnTape_4 (by decide) (fun h => absurd h (by decide : ¬ (0 : Int32) < 0)) (fun _ => ?_)
  refine v_aload_n C eX11_putOnTape_7 rfl 0 rfl ?_
  refine n_get C I fX11_19_X11 eX11_putOnTape_8 (hN 74 (by decide)) rfl rfl ?_
  refine v_aload_n C eX11_putOnTape_11 rfl 0 rfl ?_
  refine n_get C I fX11_23_X11 eX11_putOnTape_12 (hN 74 (by decide)) rfl rfl ?_
  refine v_iload_n C eX11_putOnTape_15 rfl 1 rfl ?_
  refine v_iload_n C eX11_putOnTape_16 rfl 2 rfl ?_
  refine v_iushr C eX11_putOnTape_17 ?_
  refine v_i2b C eX11_putOnTape_18 ?_
  refine v_topi (fun b3_4 hb3_4 => ?_)
  refine n_bast C I eX11_putOnTape_19 (hN 85 (by decide)) rfl (((tn + 1) + 1) + 1) (rfl : nI (((tn + 1) + 1) + 1) = nI (((tn + 1) + 1) + 1)) (by omega) (by decide) ?_
  refine v_aload_n C eX11_putOnTape_20 rfl 0 rfl ?_
  refine v_dup C eX11_putOnTape_21 rfl ?_
  refine n_get C I fX11_23_X11 eX11_putOnTape_22 (hN 74 (by decide)) rfl rfl ?_
  refine v_iconst (v := (1 : Int32)) C eX11_putOnTape_25 (by decide) ?_
  refine v_iadd C eX11_putOnTape_26 ?_
  refine v_natT (show (nI (((tn + 1) + 1) + 1)) + ((1 : Int32)) = nI ((((tn + 1) + 1) + 1) + 1) from (ix_add (a := ((tn + 1) + 1) + 1) (b := 1) (rfl : nI (((tn + 1) + 1) + 1) = nI (((tn + 1) + 1) + 1)) (rfl : (1 : Int32) = nI 1))) ?_
  refine n_put (fs' := [.ref (ad 75), .ref (ad 84), .ref (ad 85), .int (nI ((((tn + 1) + 1) + 1) + 1)), .ref x4, .int ((0 : Int32)), .ref x6, .ref x7]) C I fX11_23_X11p eX11_putOnTape_27 (hN 74 (by decide)) rfl rfl rfl (Nat.le_of_ble_eq_true rfl) rfl ?_
  refine v_iinc (lv' := [(0, .ref (ad 74)), (1, .int v), (2, .int ((-8 : Int32)))]) C eX11_putOnTape_30 2 rfl (by decide) (by decide) [1, 2, 0] rfl ?_
  refine v_goto (tgt := 3) C eX11_putOnTape_33 (by decide) ?_
  refine v_iload_n C eX11_putOnTape_3 rfl 2 rfl ?_
  refine v_if_lt (tgt := 36) C eX11_putOnTape_4 (by decide) (fun _ => ?_) (fun h => absurd (by decide : (-8 : Int32) < 0) h)
  exact n_vret C rfl eX11_putOnTape_36 ⟨rfl, rfl, ⟨_, rfl⟩, fun k hk => by simp [va_up, show k ≠ 74 by omega, show k ≠ 85 by omega]⟩
end CM
