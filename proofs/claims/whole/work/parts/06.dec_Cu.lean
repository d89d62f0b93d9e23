theorem d_Cu_init_0 : decode cd_Cu_init 0 = .ok (.aload_n 0, 1) := by decide +kernel
theorem d_Cu_init_1 : decode cd_Cu_init 1 = .ok (.invokespecial 3, 3) := by decide +kernel
theorem d_Cu_init_4 : decode cd_Cu_init 4 = .ok (.aload_n 0, 1) := by decide +kernel
theorem d_Cu_init_5 : decode cd_Cu_init 5 = .ok (.iconst 0, 1) := by decide +kernel
theorem d_Cu_init_6 : decode cd_Cu_init 6 = .ok (.newarray .int, 2) := by decide +kernel
theorem d_Cu_init_8 : decode cd_Cu_init 8 = .ok (.putfield 9, 3) := by decide +kernel
theorem d_Cu_init_11 : decode cd_Cu_init 11 = .ok (.return_, 1) := by decide +kernel
theorem d_Cu_open_0 : decode cd_Cu_open 0 = .ok (.aload_n 0, 1) := by decide +kernel
theorem d_Cu_open_1 : decode cd_Cu_open 1 = .ok (.aload_n 1, 1) := by decide +kernel
theorem d_Cu_open_2 : decode cd_Cu_open 2 = .ok (.putfield 9, 3) := by decide +kernel
theorem d_Cu_open_5 : decode cd_Cu_open 5 = .ok (.aload_n 0, 1) := by decide +kernel
theorem d_Cu_open_6 : decode cd_Cu_open 6 = .ok (.iload_n 2, 1) := by decide +kernel
theorem d_Cu_open_7 : decode cd_Cu_open 7 = .ok (.putfield 15, 3) := by decide +kernel
theorem d_Cu_open_10 : decode cd_Cu_open 10 = .ok (.aload_n 0, 1) := by decide +kernel
theorem d_Cu_open_11 : decode cd_Cu_open 11 = .ok (.iload_n 2, 1) := by decide +kernel
theorem d_Cu_open_12 : decode cd_Cu_open 12 = .ok (.iload_n 3, 1) := by decide +kernel
theorem d_Cu_open_13 : decode cd_Cu_open 13 = .ok (.iadd, 1) := by decide +kernel
theorem d_Cu_open_14 : decode cd_Cu_open 14 = .ok (.putfield 19, 3) := by decide +kernel
theorem d_Cu_open_17 : decode cd_Cu_open 17 = .ok (.return_, 1) := by decide +kernel
theorem d_Cu_left_0 : decode cd_Cu_left 0 = .ok (.aload_n 0, 1) := by decide +kernel
theorem d_Cu_left_1 : decode cd_Cu_left 1 = .ok (.getfield 19, 3) := by decide +kernel
theorem d_Cu_left_4 : decode cd_Cu_left 4 = .ok (.aload_n 0, 1) := by decide +kernel
theorem d_Cu_left_5 : decode cd_Cu_left 5 = .ok (.getfield 15, 3) := by decide +kernel
theorem d_Cu_left_8 : decode cd_Cu_left 8 = .ok (.isub, 1) := by decide +kernel
theorem d_Cu_left_9 : decode cd_Cu_left 9 = .ok (.ireturn, 1) := by decide +kernel
theorem d_Cu_next_0 : decode cd_Cu_next 0 = .ok (.aload_n 0, 1) := by decide +kernel
theorem d_Cu_next_1 : decode cd_Cu_next 1 = .ok (.getfield 15, 3) := by decide +kernel
theorem d_Cu_next_4 : decode cd_Cu_next 4 = .ok (.aload_n 0, 1) := by decide +kernel
theorem d_Cu_next_5 : decode cd_Cu_next 5 = .ok (.getfield 19, 3) := by decide +kernel
theorem d_Cu_next_8 : decode cd_Cu_next 8 = .ok (.if_icmp .lt 5, 3) := by decide +kernel
theorem d_Cu_next_11 : decode cd_Cu_next 11 = .ok (.iconst (-1), 1) := by decide +kernel
theorem d_Cu_next_12 : decode cd_Cu_next 12 = .ok (.ireturn, 1) := by decide +kernel
theorem d_Cu_next_13 : decode cd_Cu_next 13 = .ok (.aload_n 0, 1) := by decide +kernel
theorem d_Cu_next_14 : decode cd_Cu_next 14 = .ok (.dup, 1) := by decide +kernel
theorem d_Cu_next_15 : decode cd_Cu_next 15 = .ok (.getfield 15, 3) := by decide +kernel
theorem d_Cu_next_18 : decode cd_Cu_next 18 = .ok (.iconst 1, 1) := by decide +kernel
theorem d_Cu_next_19 : decode cd_Cu_next 19 = .ok (.iadd, 1) := by decide +kernel
theorem d_Cu_next_20 : decode cd_Cu_next 20 = .ok (.putfield 15, 3) := by decide +kernel
theorem d_Cu_next_23 : decode cd_Cu_next 23 = .ok (.aload_n 0, 1) := by decide +kernel
theorem d_Cu_next_24 : decode cd_Cu_next 24 = .ok (.getfield 9, 3) := by decide +kernel
theorem d_Cu_next_27 : decode cd_Cu_next 27 = .ok (.aload_n 0, 1) := by decide +kernel
theorem d_Cu_next_28 : decode cd_Cu_next 28 = .ok (.getfield 15, 3) := by decide +kernel
theorem d_Cu_next_31 : decode cd_Cu_next 31 = .ok (.iconst 1, 1) := by decide +kernel
theorem d_Cu_next_32 : decode cd_Cu_next 32 = .ok (.isub, 1) := by decide +kernel
theorem d_Cu_next_33 : decode cd_Cu_next 33 = .ok (.iaload, 1) := by decide +kernel
theorem d_Cu_next_34 : decode cd_Cu_next 34 = .ok (.ireturn, 1) := by decide +kernel
theorem d_Cu_number_0 : decode cd_Cu_number 0 = .ok (.iconst 0, 1) := by decide +kernel
theorem d_Cu_number_1 : decode cd_Cu_number 1 = .ok (.istore_n 1, 1) := by decide +kernel
theorem d_Cu_number_2 : decode cd_Cu_number 2 = .ok (.iconst 0, 1) := by decide +kernel
theorem d_Cu_number_3 : decode cd_Cu_number 3 = .ok (.istore_n 2, 1) := by decide +kernel
theorem d_Cu_number_4 : decode cd_Cu_number 4 = .ok (.iload_n 2, 1) := by decide +kernel
theorem d_Cu_number_5 : decode cd_Cu_number 5 = .ok (.iconst 4, 1) := by decide +kernel
theorem d_Cu_number_6 : decode cd_Cu_number 6 = .ok (.if_icmp .ge 61, 3) := by decide +kernel
theorem d_Cu_number_9 : decode cd_Cu_number 9 = .ok (.aload_n 0, 1) := by decide +kernel
theorem d_Cu_number_10 : decode cd_Cu_number 10 = .ok (.getfield 15, 3) := by decide +kernel
theorem d_Cu_number_13 : decode cd_Cu_number 13 = .ok (.aload_n 0, 1) := by decide +kernel
theorem d_Cu_number_14 : decode cd_Cu_number 14 = .ok (.getfield 19, 3) := by decide +kernel
theorem d_Cu_number_17 : decode cd_Cu_number 17 = .ok (.if_icmp .ge 50, 3) := by decide +kernel
theorem d_Cu_number_20 : decode cd_Cu_number 20 = .ok (.aload_n 0, 1) := by decide +kernel
theorem d_Cu_number_21 : decode cd_Cu_number 21 = .ok (.getfield 9, 3) := by decide +kernel
theorem d_Cu_number_24 : decode cd_Cu_number 24 = .ok (.aload_n 0, 1) := by decide +kernel
theorem d_Cu_number_25 : decode cd_Cu_number 25 = .ok (.getfield 15, 3) := by decide +kernel
theorem d_Cu_number_28 : decode cd_Cu_number 28 = .ok (.iaload, 1) := by decide +kernel
theorem d_Cu_number_29 : decode cd_Cu_number 29 = .ok (.istore_n 3, 1) := by decide +kernel
theorem d_Cu_number_30 : decode cd_Cu_number 30 = .ok (.aload_n 0, 1) := by decide +kernel
theorem d_Cu_number_31 : decode cd_Cu_number 31 = .ok (.dup, 1) := by decide +kernel
theorem d_Cu_number_32 : decode cd_Cu_number 32 = .ok (.getfield 15, 3) := by decide +kernel
theorem d_Cu_number_35 : decode cd_Cu_number 35 = .ok (.iconst 1, 1) := by decide +kernel
theorem d_Cu_number_36 : decode cd_Cu_number 36 = .ok (.iadd, 1) := by decide +kernel
theorem d_Cu_number_37 : decode cd_Cu_number 37 = .ok (.putfield 15, 3) := by decide +kernel
theorem d_Cu_number_40 : decode cd_Cu_number 40 = .ok (.iload_n 1, 1) := by decide +kernel
theorem d_Cu_number_41 : decode cd_Cu_number 41 = .ok (.sipush 128, 3) := by decide +kernel
theorem d_Cu_number_44 : decode cd_Cu_number 44 = .ok (.imul, 1) := by decide +kernel
theorem d_Cu_number_45 : decode cd_Cu_number 45 = .ok (.iload_n 3, 1) := by decide +kernel
theorem d_Cu_number_46 : decode cd_Cu_number 46 = .ok (.sipush 128, 3) := by decide +kernel
theorem d_Cu_number_49 : decode cd_Cu_number 49 = .ok (.irem, 1) := by decide +kernel
theorem d_Cu_number_50 : decode cd_Cu_number 50 = .ok (.iadd, 1) := by decide +kernel
theorem d_Cu_number_51 : decode cd_Cu_number 51 = .ok (.istore_n 1, 1) := by decide +kernel
theorem d_Cu_number_52 : decode cd_Cu_number 52 = .ok (.iload_n 3, 1) := by decide +kernel
theorem d_Cu_number_53 : decode cd_Cu_number 53 = .ok (.sipush 128, 3) := by decide +kernel
theorem d_Cu_number_56 : decode cd_Cu_number 56 = .ok (.if_icmp .ge 5, 3) := by decide +kernel
theorem d_Cu_number_59 : decode cd_Cu_number 59 = .ok (.iload_n 1, 1) := by decide +kernel
theorem d_Cu_number_60 : decode cd_Cu_number 60 = .ok (.ireturn, 1) := by decide +kernel
theorem d_Cu_number_61 : decode cd_Cu_number 61 = .ok (.iinc 2 1, 3) := by decide +kernel
theorem d_Cu_number_64 : decode cd_Cu_number 64 = .ok (.goto (-60), 3) := by decide +kernel
theorem d_Cu_number_67 : decode cd_Cu_number 67 = .ok (.iconst (-1), 1) := by decide +kernel
theorem d_Cu_number_68 : decode cd_Cu_number 68 = .ok (.ireturn, 1) := by decide +kernel
