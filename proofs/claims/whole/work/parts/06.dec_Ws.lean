theorem d_Ws_init_0 : decode cd_Ws_init 0 = .ok (.aload_n 0, 1) := by decide +kernel
theorem d_Ws_init_1 : decode cd_Ws_init 1 = .ok (.invokespecial 1, 3) := by decide +kernel
theorem d_Ws_init_4 : decode cd_Ws_init 4 = .ok (.return_, 1) := by decide +kernel
theorem d_Ws_forget_0 : decode cd_Ws_forget 0 = .ok (.aload_n 0, 1) := by decide +kernel
theorem d_Ws_forget_1 : decode cd_Ws_forget 1 = .ok (.iconst 0, 1) := by decide +kernel
theorem d_Ws_forget_2 : decode cd_Ws_forget 2 = .ok (.putfield 7, 3) := by decide +kernel
theorem d_Ws_forget_5 : decode cd_Ws_forget 5 = .ok (.return_, 1) := by decide +kernel
theorem d_Ws_take_0 : decode cd_Ws_take 0 = .ok (.aload_n 0, 1) := by decide +kernel
theorem d_Ws_take_1 : decode cd_Ws_take 1 = .ok (.iload_n 2, 1) := by decide +kernel
theorem d_Ws_take_2 : decode cd_Ws_take 2 = .ok (.putfield 13, 3) := by decide +kernel
theorem d_Ws_take_5 : decode cd_Ws_take 5 = .ok (.aload_n 0, 1) := by decide +kernel
theorem d_Ws_take_6 : decode cd_Ws_take 6 = .ok (.iload_n 3, 1) := by decide +kernel
theorem d_Ws_take_7 : decode cd_Ws_take 7 = .ok (.putfield 7, 3) := by decide +kernel
theorem d_Ws_take_10 : decode cd_Ws_take 10 = .ok (.aload_n 0, 1) := by decide +kernel
theorem d_Ws_take_11 : decode cd_Ws_take 11 = .ok (.iconst 0, 1) := by decide +kernel
theorem d_Ws_take_12 : decode cd_Ws_take 12 = .ok (.putfield 16, 3) := by decide +kernel
theorem d_Ws_take_15 : decode cd_Ws_take 15 = .ok (.aload_n 0, 1) := by decide +kernel
theorem d_Ws_take_16 : decode cd_Ws_take 16 = .ok (.iconst 0, 1) := by decide +kernel
theorem d_Ws_take_17 : decode cd_Ws_take 17 = .ok (.putfield 19, 3) := by decide +kernel
theorem d_Ws_take_20 : decode cd_Ws_take 20 = .ok (.iconst 0, 1) := by decide +kernel
theorem d_Ws_take_21 : decode cd_Ws_take 21 = .ok (.istore 4, 2) := by decide +kernel
theorem d_Ws_take_23 : decode cd_Ws_take 23 = .ok (.iload 4, 2) := by decide +kernel
theorem d_Ws_take_25 : decode cd_Ws_take 25 = .ok (.iload_n 3, 1) := by decide +kernel
theorem d_Ws_take_26 : decode cd_Ws_take 26 = .ok (.if_icmp .ge 44, 3) := by decide +kernel
theorem d_Ws_take_29 : decode cd_Ws_take 29 = .ok (.aload_n 0, 1) := by decide +kernel
theorem d_Ws_take_30 : decode cd_Ws_take 30 = .ok (.dup, 1) := by decide +kernel
theorem d_Ws_take_31 : decode cd_Ws_take 31 = .ok (.getfield 16, 3) := by decide +kernel
theorem d_Ws_take_34 : decode cd_Ws_take 34 = .ok (.aload_n 1, 1) := by decide +kernel
theorem d_Ws_take_35 : decode cd_Ws_take 35 = .ok (.iload_n 2, 1) := by decide +kernel
theorem d_Ws_take_36 : decode cd_Ws_take 36 = .ok (.iload 4, 2) := by decide +kernel
theorem d_Ws_take_38 : decode cd_Ws_take 38 = .ok (.iadd, 1) := by decide +kernel
theorem d_Ws_take_39 : decode cd_Ws_take 39 = .ok (.iaload, 1) := by decide +kernel
theorem d_Ws_take_40 : decode cd_Ws_take 40 = .ok (.iadd, 1) := by decide +kernel
theorem d_Ws_take_41 : decode cd_Ws_take 41 = .ok (.putfield 16, 3) := by decide +kernel
theorem d_Ws_take_44 : decode cd_Ws_take 44 = .ok (.aload_n 0, 1) := by decide +kernel
theorem d_Ws_take_45 : decode cd_Ws_take 45 = .ok (.dup, 1) := by decide +kernel
theorem d_Ws_take_46 : decode cd_Ws_take 46 = .ok (.getfield 19, 3) := by decide +kernel
theorem d_Ws_take_49 : decode cd_Ws_take 49 = .ok (.iload_n 3, 1) := by decide +kernel
theorem d_Ws_take_50 : decode cd_Ws_take 50 = .ok (.iload 4, 2) := by decide +kernel
theorem d_Ws_take_52 : decode cd_Ws_take 52 = .ok (.isub, 1) := by decide +kernel
theorem d_Ws_take_53 : decode cd_Ws_take 53 = .ok (.aload_n 1, 1) := by decide +kernel
theorem d_Ws_take_54 : decode cd_Ws_take 54 = .ok (.iload_n 2, 1) := by decide +kernel
theorem d_Ws_take_55 : decode cd_Ws_take 55 = .ok (.iload 4, 2) := by decide +kernel
theorem d_Ws_take_57 : decode cd_Ws_take 57 = .ok (.iadd, 1) := by decide +kernel
theorem d_Ws_take_58 : decode cd_Ws_take 58 = .ok (.iaload, 1) := by decide +kernel
theorem d_Ws_take_59 : decode cd_Ws_take 59 = .ok (.imul, 1) := by decide +kernel
theorem d_Ws_take_60 : decode cd_Ws_take 60 = .ok (.iadd, 1) := by decide +kernel
theorem d_Ws_take_61 : decode cd_Ws_take 61 = .ok (.putfield 19, 3) := by decide +kernel
theorem d_Ws_take_64 : decode cd_Ws_take 64 = .ok (.iinc 4 1, 3) := by decide +kernel
theorem d_Ws_take_67 : decode cd_Ws_take 67 = .ok (.goto (-44), 3) := by decide +kernel
theorem d_Ws_take_70 : decode cd_Ws_take 70 = .ok (.return_, 1) := by decide +kernel
theorem d_Ws_moveTo_0 : decode cd_Ws_moveTo 0 = .ok (.iload_n 3, 1) := by decide +kernel
theorem d_Ws_moveTo_1 : decode cd_Ws_moveTo 1 = .ok (.aload_n 0, 1) := by decide +kernel
theorem d_Ws_moveTo_2 : decode cd_Ws_moveTo 2 = .ok (.getfield 7, 3) := by decide +kernel
theorem d_Ws_moveTo_5 : decode cd_Ws_moveTo 5 = .ok (.if_icmp .ne 13, 3) := by decide +kernel
theorem d_Ws_moveTo_8 : decode cd_Ws_moveTo 8 = .ok (.iload_n 2, 1) := by decide +kernel
theorem d_Ws_moveTo_9 : decode cd_Ws_moveTo 9 = .ok (.aload_n 0, 1) := by decide +kernel
theorem d_Ws_moveTo_10 : decode cd_Ws_moveTo 10 = .ok (.getfield 13, 3) := by decide +kernel
theorem d_Ws_moveTo_13 : decode cd_Ws_moveTo 13 = .ok (.iconst 1, 1) := by decide +kernel
theorem d_Ws_moveTo_14 : decode cd_Ws_moveTo 14 = .ok (.iadd, 1) := by decide +kernel
theorem d_Ws_moveTo_15 : decode cd_Ws_moveTo 15 = .ok (.if_icmp .eq 11, 3) := by decide +kernel
theorem d_Ws_moveTo_18 : decode cd_Ws_moveTo 18 = .ok (.aload_n 0, 1) := by decide +kernel
theorem d_Ws_moveTo_19 : decode cd_Ws_moveTo 19 = .ok (.aload_n 1, 1) := by decide +kernel
theorem d_Ws_moveTo_20 : decode cd_Ws_moveTo 20 = .ok (.iload_n 2, 1) := by decide +kernel
theorem d_Ws_moveTo_21 : decode cd_Ws_moveTo 21 = .ok (.iload_n 3, 1) := by decide +kernel
theorem d_Ws_moveTo_22 : decode cd_Ws_moveTo 22 = .ok (.invokevirtual 22, 3) := by decide +kernel
theorem d_Ws_moveTo_25 : decode cd_Ws_moveTo 25 = .ok (.return_, 1) := by decide +kernel
theorem d_Ws_moveTo_26 : decode cd_Ws_moveTo 26 = .ok (.aload_n 0, 1) := by decide +kernel
theorem d_Ws_moveTo_27 : decode cd_Ws_moveTo 27 = .ok (.dup, 1) := by decide +kernel
theorem d_Ws_moveTo_28 : decode cd_Ws_moveTo 28 = .ok (.getfield 16, 3) := by decide +kernel
theorem d_Ws_moveTo_31 : decode cd_Ws_moveTo 31 = .ok (.aload_n 1, 1) := by decide +kernel
theorem d_Ws_moveTo_32 : decode cd_Ws_moveTo 32 = .ok (.aload_n 0, 1) := by decide +kernel
theorem d_Ws_moveTo_33 : decode cd_Ws_moveTo 33 = .ok (.getfield 13, 3) := by decide +kernel
theorem d_Ws_moveTo_36 : decode cd_Ws_moveTo 36 = .ok (.aload_n 0, 1) := by decide +kernel
theorem d_Ws_moveTo_37 : decode cd_Ws_moveTo 37 = .ok (.getfield 7, 3) := by decide +kernel
theorem d_Ws_moveTo_40 : decode cd_Ws_moveTo 40 = .ok (.iadd, 1) := by decide +kernel
theorem d_Ws_moveTo_41 : decode cd_Ws_moveTo 41 = .ok (.iaload, 1) := by decide +kernel
theorem d_Ws_moveTo_42 : decode cd_Ws_moveTo 42 = .ok (.aload_n 1, 1) := by decide +kernel
theorem d_Ws_moveTo_43 : decode cd_Ws_moveTo 43 = .ok (.aload_n 0, 1) := by decide +kernel
theorem d_Ws_moveTo_44 : decode cd_Ws_moveTo 44 = .ok (.getfield 13, 3) := by decide +kernel
theorem d_Ws_moveTo_47 : decode cd_Ws_moveTo 47 = .ok (.iaload, 1) := by decide +kernel
theorem d_Ws_moveTo_48 : decode cd_Ws_moveTo 48 = .ok (.isub, 1) := by decide +kernel
theorem d_Ws_moveTo_49 : decode cd_Ws_moveTo 49 = .ok (.iadd, 1) := by decide +kernel
theorem d_Ws_moveTo_50 : decode cd_Ws_moveTo 50 = .ok (.putfield 16, 3) := by decide +kernel
theorem d_Ws_moveTo_53 : decode cd_Ws_moveTo 53 = .ok (.aload_n 0, 1) := by decide +kernel
theorem d_Ws_moveTo_54 : decode cd_Ws_moveTo 54 = .ok (.dup, 1) := by decide +kernel
theorem d_Ws_moveTo_55 : decode cd_Ws_moveTo 55 = .ok (.getfield 19, 3) := by decide +kernel
theorem d_Ws_moveTo_58 : decode cd_Ws_moveTo 58 = .ok (.aload_n 0, 1) := by decide +kernel
theorem d_Ws_moveTo_59 : decode cd_Ws_moveTo 59 = .ok (.getfield 16, 3) := by decide +kernel
theorem d_Ws_moveTo_62 : decode cd_Ws_moveTo 62 = .ok (.aload_n 0, 1) := by decide +kernel
theorem d_Ws_moveTo_63 : decode cd_Ws_moveTo 63 = .ok (.getfield 7, 3) := by decide +kernel
theorem d_Ws_moveTo_66 : decode cd_Ws_moveTo 66 = .ok (.aload_n 1, 1) := by decide +kernel
theorem d_Ws_moveTo_67 : decode cd_Ws_moveTo 67 = .ok (.aload_n 0, 1) := by decide +kernel
theorem d_Ws_moveTo_68 : decode cd_Ws_moveTo 68 = .ok (.getfield 13, 3) := by decide +kernel
theorem d_Ws_moveTo_71 : decode cd_Ws_moveTo 71 = .ok (.iaload, 1) := by decide +kernel
theorem d_Ws_moveTo_72 : decode cd_Ws_moveTo 72 = .ok (.imul, 1) := by decide +kernel
theorem d_Ws_moveTo_73 : decode cd_Ws_moveTo 73 = .ok (.isub, 1) := by decide +kernel
theorem d_Ws_moveTo_74 : decode cd_Ws_moveTo 74 = .ok (.iadd, 1) := by decide +kernel
theorem d_Ws_moveTo_75 : decode cd_Ws_moveTo 75 = .ok (.putfield 19, 3) := by decide +kernel
theorem d_Ws_moveTo_78 : decode cd_Ws_moveTo 78 = .ok (.aload_n 0, 1) := by decide +kernel
theorem d_Ws_moveTo_79 : decode cd_Ws_moveTo 79 = .ok (.iload_n 2, 1) := by decide +kernel
theorem d_Ws_moveTo_80 : decode cd_Ws_moveTo 80 = .ok (.putfield 13, 3) := by decide +kernel
theorem d_Ws_moveTo_83 : decode cd_Ws_moveTo 83 = .ok (.return_, 1) := by decide +kernel
theorem d_Ws_value_0 : decode cd_Ws_value 0 = .ok (.ldc2_w 26, 3) := by decide +kernel
theorem d_Ws_value_3 : decode cd_Ws_value 3 = .ok (.aload_n 0, 1) := by decide +kernel
theorem d_Ws_value_4 : decode cd_Ws_value 4 = .ok (.getfield 19, 3) := by decide +kernel
theorem d_Ws_value_7 : decode cd_Ws_value 7 = .ok (.ldc 28, 2) := by decide +kernel
theorem d_Ws_value_9 : decode cd_Ws_value 9 = .ok (.iand, 1) := by decide +kernel
theorem d_Ws_value_10 : decode cd_Ws_value 10 = .ok (.i2l, 1) := by decide +kernel
theorem d_Ws_value_11 : decode cd_Ws_value 11 = .ok (.lmul, 1) := by decide +kernel
theorem d_Ws_value_12 : decode cd_Ws_value 12 = .ok (.aload_n 0, 1) := by decide +kernel
theorem d_Ws_value_13 : decode cd_Ws_value 13 = .ok (.getfield 16, 3) := by decide +kernel
theorem d_Ws_value_16 : decode cd_Ws_value 16 = .ok (.ldc 28, 2) := by decide +kernel
theorem d_Ws_value_18 : decode cd_Ws_value 18 = .ok (.iand, 1) := by decide +kernel
theorem d_Ws_value_19 : decode cd_Ws_value 19 = .ok (.i2l, 1) := by decide +kernel
theorem d_Ws_value_20 : decode cd_Ws_value 20 = .ok (.ladd, 1) := by decide +kernel
theorem d_Ws_value_21 : decode cd_Ws_value 21 = .ok (.lreturn, 1) := by decide +kernel
