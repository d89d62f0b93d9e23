theorem d_Ro_init_0 : decode cd_Ro_init 0 = .ok (.aload_n 0, 1) := by decide +kernel
theorem d_Ro_init_1 : decode cd_Ro_init 1 = .ok (.invokespecial 1, 3) := by decide +kernel
theorem d_Ro_init_4 : decode cd_Ro_init 4 = .ok (.aload_n 0, 1) := by decide +kernel
theorem d_Ro_init_5 : decode cd_Ro_init 5 = .ok (.iload_n 1, 1) := by decide +kernel
theorem d_Ro_init_6 : decode cd_Ro_init 6 = .ok (.newarray .int, 2) := by decide +kernel
theorem d_Ro_init_8 : decode cd_Ro_init 8 = .ok (.putfield 7, 3) := by decide +kernel
theorem d_Ro_init_11 : decode cd_Ro_init 11 = .ok (.return_, 1) := by decide +kernel
theorem d_Ro_left_0 : decode cd_Ro_left 0 = .ok (.aload_n 0, 1) := by decide +kernel
theorem d_Ro_left_1 : decode cd_Ro_left 1 = .ok (.getfield 7, 3) := by decide +kernel
theorem d_Ro_left_4 : decode cd_Ro_left 4 = .ok (.arraylength, 1) := by decide +kernel
theorem d_Ro_left_5 : decode cd_Ro_left 5 = .ok (.aload_n 0, 1) := by decide +kernel
theorem d_Ro_left_6 : decode cd_Ro_left 6 = .ok (.getfield 13, 3) := by decide +kernel
theorem d_Ro_left_9 : decode cd_Ro_left 9 = .ok (.isub, 1) := by decide +kernel
theorem d_Ro_left_10 : decode cd_Ro_left 10 = .ok (.ireturn, 1) := by decide +kernel
theorem d_Ro_has_0 : decode cd_Ro_has 0 = .ok (.iload_n 1, 1) := by decide +kernel
theorem d_Ro_has_1 : decode cd_Ro_has 1 = .ok (.ifCond .lt 15, 3) := by decide +kernel
theorem d_Ro_has_4 : decode cd_Ro_has 4 = .ok (.iload_n 1, 1) := by decide +kernel
theorem d_Ro_has_5 : decode cd_Ro_has 5 = .ok (.aload_n 0, 1) := by decide +kernel
theorem d_Ro_has_6 : decode cd_Ro_has 6 = .ok (.getfield 13, 3) := by decide +kernel
theorem d_Ro_has_9 : decode cd_Ro_has 9 = .ok (.if_icmp .ge 7, 3) := by decide +kernel
theorem d_Ro_has_12 : decode cd_Ro_has 12 = .ok (.iconst 1, 1) := by decide +kernel
theorem d_Ro_has_13 : decode cd_Ro_has 13 = .ok (.goto 4, 3) := by decide +kernel
theorem d_Ro_has_16 : decode cd_Ro_has 16 = .ok (.iconst 0, 1) := by decide +kernel
theorem d_Ro_has_17 : decode cd_Ro_has 17 = .ok (.ireturn, 1) := by decide +kernel
theorem d_Ro_push_0 : decode cd_Ro_push 0 = .ok (.aload_n 0, 1) := by decide +kernel
theorem d_Ro_push_1 : decode cd_Ro_push 1 = .ok (.getfield 13, 3) := by decide +kernel
theorem d_Ro_push_4 : decode cd_Ro_push 4 = .ok (.aload_n 0, 1) := by decide +kernel
theorem d_Ro_push_5 : decode cd_Ro_push 5 = .ok (.getfield 7, 3) := by decide +kernel
theorem d_Ro_push_8 : decode cd_Ro_push 8 = .ok (.arraylength, 1) := by decide +kernel
theorem d_Ro_push_9 : decode cd_Ro_push 9 = .ok (.if_icmp .ge 23, 3) := by decide +kernel
theorem d_Ro_push_12 : decode cd_Ro_push 12 = .ok (.aload_n 0, 1) := by decide +kernel
theorem d_Ro_push_13 : decode cd_Ro_push 13 = .ok (.getfield 7, 3) := by decide +kernel
theorem d_Ro_push_16 : decode cd_Ro_push 16 = .ok (.aload_n 0, 1) := by decide +kernel
theorem d_Ro_push_17 : decode cd_Ro_push 17 = .ok (.getfield 13, 3) := by decide +kernel
theorem d_Ro_push_20 : decode cd_Ro_push 20 = .ok (.iload_n 1, 1) := by decide +kernel
theorem d_Ro_push_21 : decode cd_Ro_push 21 = .ok (.iastore, 1) := by decide +kernel
theorem d_Ro_push_22 : decode cd_Ro_push 22 = .ok (.aload_n 0, 1) := by decide +kernel
theorem d_Ro_push_23 : decode cd_Ro_push 23 = .ok (.dup, 1) := by decide +kernel
theorem d_Ro_push_24 : decode cd_Ro_push 24 = .ok (.getfield 13, 3) := by decide +kernel
theorem d_Ro_push_27 : decode cd_Ro_push 27 = .ok (.iconst 1, 1) := by decide +kernel
theorem d_Ro_push_28 : decode cd_Ro_push 28 = .ok (.iadd, 1) := by decide +kernel
theorem d_Ro_push_29 : decode cd_Ro_push 29 = .ok (.putfield 13, 3) := by decide +kernel
theorem d_Ro_push_32 : decode cd_Ro_push 32 = .ok (.return_, 1) := by decide +kernel
theorem d_Ro_pushNumber_0 : decode cd_Ro_pushNumber 0 = .ok (.bipush 21, 2) := by decide +kernel
theorem d_Ro_pushNumber_2 : decode cd_Ro_pushNumber 2 = .ok (.istore_n 2, 1) := by decide +kernel
theorem d_Ro_pushNumber_3 : decode cd_Ro_pushNumber 3 = .ok (.iload_n 2, 1) := by decide +kernel
theorem d_Ro_pushNumber_4 : decode cd_Ro_pushNumber 4 = .ok (.ifCond .le 29, 3) := by decide +kernel
theorem d_Ro_pushNumber_7 : decode cd_Ro_pushNumber 7 = .ok (.iload_n 1, 1) := by decide +kernel
theorem d_Ro_pushNumber_8 : decode cd_Ro_pushNumber 8 = .ok (.iload_n 2, 1) := by decide +kernel
theorem d_Ro_pushNumber_9 : decode cd_Ro_pushNumber 9 = .ok (.iushr, 1) := by decide +kernel
theorem d_Ro_pushNumber_10 : decode cd_Ro_pushNumber 10 = .ok (.ifCond .eq 17, 3) := by decide +kernel
theorem d_Ro_pushNumber_13 : decode cd_Ro_pushNumber 13 = .ok (.aload_n 0, 1) := by decide +kernel
theorem d_Ro_pushNumber_14 : decode cd_Ro_pushNumber 14 = .ok (.sipush 128, 3) := by decide +kernel
theorem d_Ro_pushNumber_17 : decode cd_Ro_pushNumber 17 = .ok (.iload_n 1, 1) := by decide +kernel
theorem d_Ro_pushNumber_18 : decode cd_Ro_pushNumber 18 = .ok (.iload_n 2, 1) := by decide +kernel
theorem d_Ro_pushNumber_19 : decode cd_Ro_pushNumber 19 = .ok (.iushr, 1) := by decide +kernel
theorem d_Ro_pushNumber_20 : decode cd_Ro_pushNumber 20 = .ok (.bipush 127, 2) := by decide +kernel
theorem d_Ro_pushNumber_22 : decode cd_Ro_pushNumber 22 = .ok (.iand, 1) := by decide +kernel
theorem d_Ro_pushNumber_23 : decode cd_Ro_pushNumber 23 = .ok (.ior, 1) := by decide +kernel
theorem d_Ro_pushNumber_24 : decode cd_Ro_pushNumber 24 = .ok (.invokevirtual 17, 3) := by decide +kernel
theorem d_Ro_pushNumber_27 : decode cd_Ro_pushNumber 27 = .ok (.iinc 2 (-7), 3) := by decide +kernel
theorem d_Ro_pushNumber_30 : decode cd_Ro_pushNumber 30 = .ok (.goto (-27), 3) := by decide +kernel
theorem d_Ro_pushNumber_33 : decode cd_Ro_pushNumber 33 = .ok (.aload_n 0, 1) := by decide +kernel
theorem d_Ro_pushNumber_34 : decode cd_Ro_pushNumber 34 = .ok (.iload_n 1, 1) := by decide +kernel
theorem d_Ro_pushNumber_35 : decode cd_Ro_pushNumber 35 = .ok (.bipush 127, 2) := by decide +kernel
theorem d_Ro_pushNumber_37 : decode cd_Ro_pushNumber 37 = .ok (.iand, 1) := by decide +kernel
theorem d_Ro_pushNumber_38 : decode cd_Ro_pushNumber 38 = .ok (.invokevirtual 17, 3) := by decide +kernel
theorem d_Ro_pushNumber_41 : decode cd_Ro_pushNumber 41 = .ok (.return_, 1) := by decide +kernel
theorem d_Ro_pushPart_0 : decode cd_Ro_pushPart 0 = .ok (.iload_n 3, 1) := by decide +kernel
theorem d_Ro_pushPart_1 : decode cd_Ro_pushPart 1 = .ok (.aload_n 0, 1) := by decide +kernel
theorem d_Ro_pushPart_2 : decode cd_Ro_pushPart 2 = .ok (.invokevirtual 21, 3) := by decide +kernel
theorem d_Ro_pushPart_5 : decode cd_Ro_pushPart 5 = .ok (.invokestatic 25, 3) := by decide +kernel
theorem d_Ro_pushPart_8 : decode cd_Ro_pushPart 8 = .ok (.istore 4, 2) := by decide +kernel
theorem d_Ro_pushPart_10 : decode cd_Ro_pushPart 10 = .ok (.aload_n 1, 1) := by decide +kernel
theorem d_Ro_pushPart_11 : decode cd_Ro_pushPart 11 = .ok (.iload_n 2, 1) := by decide +kernel
theorem d_Ro_pushPart_12 : decode cd_Ro_pushPart 12 = .ok (.aload_n 0, 1) := by decide +kernel
theorem d_Ro_pushPart_13 : decode cd_Ro_pushPart 13 = .ok (.getfield 7, 3) := by decide +kernel
theorem d_Ro_pushPart_16 : decode cd_Ro_pushPart 16 = .ok (.aload_n 0, 1) := by decide +kernel
theorem d_Ro_pushPart_17 : decode cd_Ro_pushPart 17 = .ok (.getfield 13, 3) := by decide +kernel
theorem d_Ro_pushPart_20 : decode cd_Ro_pushPart 20 = .ok (.iload 4, 2) := by decide +kernel
theorem d_Ro_pushPart_22 : decode cd_Ro_pushPart 22 = .ok (.invokestatic 31, 3) := by decide +kernel
theorem d_Ro_pushPart_25 : decode cd_Ro_pushPart 25 = .ok (.aload_n 0, 1) := by decide +kernel
theorem d_Ro_pushPart_26 : decode cd_Ro_pushPart 26 = .ok (.dup, 1) := by decide +kernel
theorem d_Ro_pushPart_27 : decode cd_Ro_pushPart 27 = .ok (.getfield 13, 3) := by decide +kernel
theorem d_Ro_pushPart_30 : decode cd_Ro_pushPart 30 = .ok (.iload 4, 2) := by decide +kernel
theorem d_Ro_pushPart_32 : decode cd_Ro_pushPart 32 = .ok (.iadd, 1) := by decide +kernel
theorem d_Ro_pushPart_33 : decode cd_Ro_pushPart 33 = .ok (.putfield 13, 3) := by decide +kernel
theorem d_Ro_pushPart_36 : decode cd_Ro_pushPart 36 = .ok (.return_, 1) := by decide +kernel
theorem d_Ro_become_0 : decode cd_Ro_become 0 = .ok (.aload_n 1, 1) := by decide +kernel
theorem d_Ro_become_1 : decode cd_Ro_become 1 = .ok (.getfield 13, 3) := by decide +kernel
theorem d_Ro_become_4 : decode cd_Ro_become 4 = .ok (.istore_n 2, 1) := by decide +kernel
theorem d_Ro_become_5 : decode cd_Ro_become 5 = .ok (.aload_n 0, 1) := by decide +kernel
theorem d_Ro_become_6 : decode cd_Ro_become 6 = .ok (.iconst 0, 1) := by decide +kernel
theorem d_Ro_become_7 : decode cd_Ro_become 7 = .ok (.putfield 13, 3) := by decide +kernel
theorem d_Ro_become_10 : decode cd_Ro_become 10 = .ok (.aload_n 0, 1) := by decide +kernel
theorem d_Ro_become_11 : decode cd_Ro_become 11 = .ok (.aload_n 1, 1) := by decide +kernel
theorem d_Ro_become_12 : decode cd_Ro_become 12 = .ok (.getfield 7, 3) := by decide +kernel
theorem d_Ro_become_15 : decode cd_Ro_become 15 = .ok (.iconst 0, 1) := by decide +kernel
theorem d_Ro_become_16 : decode cd_Ro_become 16 = .ok (.iload_n 2, 1) := by decide +kernel
theorem d_Ro_become_17 : decode cd_Ro_become 17 = .ok (.invokevirtual 37, 3) := by decide +kernel
theorem d_Ro_become_20 : decode cd_Ro_become 20 = .ok (.return_, 1) := by decide +kernel
