theorem d_Pl_init_0 : decode cd_Pl_init 0 = .ok (.aload_n 0, 1) := by decide +kernel
theorem d_Pl_init_1 : decode cd_Pl_init 1 = .ok (.invokespecial 3, 3) := by decide +kernel
theorem d_Pl_init_4 : decode cd_Pl_init 4 = .ok (.aload_n 0, 1) := by decide +kernel
theorem d_Pl_init_5 : decode cd_Pl_init 5 = .ok (.sipush 300, 3) := by decide +kernel
theorem d_Pl_init_8 : decode cd_Pl_init 8 = .ok (.newarray .int, 2) := by decide +kernel
theorem d_Pl_init_10 : decode cd_Pl_init 10 = .ok (.putfield 9, 3) := by decide +kernel
theorem d_Pl_init_13 : decode cd_Pl_init 13 = .ok (.aload_n 0, 1) := by decide +kernel
theorem d_Pl_init_14 : decode cd_Pl_init 14 = .ok (.sipush 300, 3) := by decide +kernel
theorem d_Pl_init_17 : decode cd_Pl_init 17 = .ok (.newarray .int, 2) := by decide +kernel
theorem d_Pl_init_19 : decode cd_Pl_init 19 = .ok (.putfield 15, 3) := by decide +kernel
theorem d_Pl_init_22 : decode cd_Pl_init 22 = .ok (.aload_n 0, 1) := by decide +kernel
theorem d_Pl_init_23 : decode cd_Pl_init 23 = .ok (.sipush 300, 3) := by decide +kernel
theorem d_Pl_init_26 : decode cd_Pl_init 26 = .ok (.newarray .int, 2) := by decide +kernel
theorem d_Pl_init_28 : decode cd_Pl_init 28 = .ok (.putfield 18, 3) := by decide +kernel
theorem d_Pl_init_31 : decode cd_Pl_init 31 = .ok (.aload_n 0, 1) := by decide +kernel
theorem d_Pl_init_32 : decode cd_Pl_init 32 = .ok (.sipush 300, 3) := by decide +kernel
theorem d_Pl_init_35 : decode cd_Pl_init 35 = .ok (.newarray .int, 2) := by decide +kernel
theorem d_Pl_init_37 : decode cd_Pl_init 37 = .ok (.putfield 21, 3) := by decide +kernel
theorem d_Pl_init_40 : decode cd_Pl_init 40 = .ok (.aload_n 0, 1) := by decide +kernel
theorem d_Pl_init_41 : decode cd_Pl_init 41 = .ok (.bipush 16, 2) := by decide +kernel
theorem d_Pl_init_43 : decode cd_Pl_init 43 = .ok (.putfield 24, 3) := by decide +kernel
theorem d_Pl_init_46 : decode cd_Pl_init 46 = .ok (.return_, 1) := by decide +kernel
theorem d_Pl_open_0 : decode cd_Pl_open 0 = .ok (.aload_n 0, 1) := by decide +kernel
theorem d_Pl_open_1 : decode cd_Pl_open 1 = .ok (.iload_n 1, 1) := by decide +kernel
theorem d_Pl_open_2 : decode cd_Pl_open 2 = .ok (.putfield 24, 3) := by decide +kernel
theorem d_Pl_open_5 : decode cd_Pl_open 5 = .ok (.aload_n 0, 1) := by decide +kernel
theorem d_Pl_open_6 : decode cd_Pl_open 6 = .ok (.iload_n 2, 1) := by decide +kernel
theorem d_Pl_open_7 : decode cd_Pl_open 7 = .ok (.putfield 28, 3) := by decide +kernel
theorem d_Pl_open_10 : decode cd_Pl_open 10 = .ok (.aload_n 0, 1) := by decide +kernel
theorem d_Pl_open_11 : decode cd_Pl_open 11 = .ok (.iconst 1, 1) := by decide +kernel
theorem d_Pl_open_12 : decode cd_Pl_open 12 = .ok (.putfield 31, 3) := by decide +kernel
theorem d_Pl_open_15 : decode cd_Pl_open 15 = .ok (.aload_n 0, 1) := by decide +kernel
theorem d_Pl_open_16 : decode cd_Pl_open 16 = .ok (.iconst 0, 1) := by decide +kernel
theorem d_Pl_open_17 : decode cd_Pl_open 17 = .ok (.putfield 35, 3) := by decide +kernel
theorem d_Pl_open_20 : decode cd_Pl_open 20 = .ok (.return_, 1) := by decide +kernel
theorem d_Pl_append_0 : decode cd_Pl_append 0 = .ok (.aload_n 0, 1) := by decide +kernel
theorem d_Pl_append_1 : decode cd_Pl_append 1 = .ok (.getfield 35, 3) := by decide +kernel
theorem d_Pl_append_4 : decode cd_Pl_append 4 = .ok (.sipush 300, 3) := by decide +kernel
theorem d_Pl_append_7 : decode cd_Pl_append 7 = .ok (.if_icmp .ge 54, 3) := by decide +kernel
theorem d_Pl_append_10 : decode cd_Pl_append 10 = .ok (.aload_n 0, 1) := by decide +kernel
theorem d_Pl_append_11 : decode cd_Pl_append 11 = .ok (.getfield 9, 3) := by decide +kernel
theorem d_Pl_append_14 : decode cd_Pl_append 14 = .ok (.aload_n 0, 1) := by decide +kernel
theorem d_Pl_append_15 : decode cd_Pl_append 15 = .ok (.getfield 35, 3) := by decide +kernel
theorem d_Pl_append_18 : decode cd_Pl_append 18 = .ok (.iload_n 1, 1) := by decide +kernel
theorem d_Pl_append_19 : decode cd_Pl_append 19 = .ok (.iastore, 1) := by decide +kernel
theorem d_Pl_append_20 : decode cd_Pl_append 20 = .ok (.aload_n 0, 1) := by decide +kernel
theorem d_Pl_append_21 : decode cd_Pl_append 21 = .ok (.getfield 15, 3) := by decide +kernel
theorem d_Pl_append_24 : decode cd_Pl_append 24 = .ok (.aload_n 0, 1) := by decide +kernel
theorem d_Pl_append_25 : decode cd_Pl_append 25 = .ok (.getfield 35, 3) := by decide +kernel
theorem d_Pl_append_28 : decode cd_Pl_append 28 = .ok (.iload_n 2, 1) := by decide +kernel
theorem d_Pl_append_29 : decode cd_Pl_append 29 = .ok (.iastore, 1) := by decide +kernel
theorem d_Pl_append_30 : decode cd_Pl_append 30 = .ok (.aload_n 0, 1) := by decide +kernel
theorem d_Pl_append_31 : decode cd_Pl_append 31 = .ok (.getfield 18, 3) := by decide +kernel
theorem d_Pl_append_34 : decode cd_Pl_append 34 = .ok (.aload_n 0, 1) := by decide +kernel
theorem d_Pl_append_35 : decode cd_Pl_append 35 = .ok (.getfield 35, 3) := by decide +kernel
theorem d_Pl_append_38 : decode cd_Pl_append 38 = .ok (.iload_n 3, 1) := by decide +kernel
theorem d_Pl_append_39 : decode cd_Pl_append 39 = .ok (.iastore, 1) := by decide +kernel
theorem d_Pl_append_40 : decode cd_Pl_append 40 = .ok (.aload_n 0, 1) := by decide +kernel
theorem d_Pl_append_41 : decode cd_Pl_append 41 = .ok (.getfield 21, 3) := by decide +kernel
theorem d_Pl_append_44 : decode cd_Pl_append 44 = .ok (.aload_n 0, 1) := by decide +kernel
theorem d_Pl_append_45 : decode cd_Pl_append 45 = .ok (.getfield 35, 3) := by decide +kernel
theorem d_Pl_append_48 : decode cd_Pl_append 48 = .ok (.iload 4, 2) := by decide +kernel
theorem d_Pl_append_50 : decode cd_Pl_append 50 = .ok (.iastore, 1) := by decide +kernel
theorem d_Pl_append_51 : decode cd_Pl_append 51 = .ok (.aload_n 0, 1) := by decide +kernel
theorem d_Pl_append_52 : decode cd_Pl_append 52 = .ok (.dup, 1) := by decide +kernel
theorem d_Pl_append_53 : decode cd_Pl_append 53 = .ok (.getfield 35, 3) := by decide +kernel
theorem d_Pl_append_56 : decode cd_Pl_append 56 = .ok (.iconst 1, 1) := by decide +kernel
theorem d_Pl_append_57 : decode cd_Pl_append 57 = .ok (.iadd, 1) := by decide +kernel
theorem d_Pl_append_58 : decode cd_Pl_append 58 = .ok (.putfield 35, 3) := by decide +kernel
theorem d_Pl_append_61 : decode cd_Pl_append 61 = .ok (.return_, 1) := by decide +kernel
theorem d_Pl_extend_0 : decode cd_Pl_extend 0 = .ok (.iload_n 2, 1) := by decide +kernel
theorem d_Pl_extend_1 : decode cd_Pl_extend 1 = .ok (.iload_n 3, 1) := by decide +kernel
theorem d_Pl_extend_2 : decode cd_Pl_extend 2 = .ok (.iadd, 1) := by decide +kernel
theorem d_Pl_extend_3 : decode cd_Pl_extend 3 = .ok (.istore 5, 2) := by decide +kernel
theorem d_Pl_extend_5 : decode cd_Pl_extend 5 = .ok (.iload_n 2, 1) := by decide +kernel
theorem d_Pl_extend_6 : decode cd_Pl_extend 6 = .ok (.istore 6, 2) := by decide +kernel
theorem d_Pl_extend_8 : decode cd_Pl_extend 8 = .ok (.iload 6, 2) := by decide +kernel
theorem d_Pl_extend_10 : decode cd_Pl_extend 10 = .ok (.iload 5, 2) := by decide +kernel
theorem d_Pl_extend_12 : decode cd_Pl_extend 12 = .ok (.if_icmp .ge 106, 3) := by decide +kernel
theorem d_Pl_extend_15 : decode cd_Pl_extend 15 = .ok (.iload 6, 2) := by decide +kernel
theorem d_Pl_extend_17 : decode cd_Pl_extend 17 = .ok (.aload_n 0, 1) := by decide +kernel
theorem d_Pl_extend_18 : decode cd_Pl_extend 18 = .ok (.getfield 24, 3) := by decide +kernel
theorem d_Pl_extend_21 : decode cd_Pl_extend 21 = .ok (.idiv, 1) := by decide +kernel
theorem d_Pl_extend_22 : decode cd_Pl_extend 22 = .ok (.istore 7, 2) := by decide +kernel
theorem d_Pl_extend_24 : decode cd_Pl_extend 24 = .ok (.iload 5, 2) := by decide +kernel
theorem d_Pl_extend_26 : decode cd_Pl_extend 26 = .ok (.iload 7, 2) := by decide +kernel
theorem d_Pl_extend_28 : decode cd_Pl_extend 28 = .ok (.iconst 1, 1) := by decide +kernel
theorem d_Pl_extend_29 : decode cd_Pl_extend 29 = .ok (.iadd, 1) := by decide +kernel
theorem d_Pl_extend_30 : decode cd_Pl_extend 30 = .ok (.aload_n 0, 1) := by decide +kernel
theorem d_Pl_extend_31 : decode cd_Pl_extend 31 = .ok (.getfield 24, 3) := by decide +kernel
theorem d_Pl_extend_34 : decode cd_Pl_extend 34 = .ok (.imul, 1) := by decide +kernel
theorem d_Pl_extend_35 : decode cd_Pl_extend 35 = .ok (.invokestatic 38, 3) := by decide +kernel
theorem d_Pl_extend_38 : decode cd_Pl_extend 38 = .ok (.iload 6, 2) := by decide +kernel
theorem d_Pl_extend_40 : decode cd_Pl_extend 40 = .ok (.isub, 1) := by decide +kernel
theorem d_Pl_extend_41 : decode cd_Pl_extend 41 = .ok (.istore 8, 2) := by decide +kernel
theorem d_Pl_extend_43 : decode cd_Pl_extend 43 = .ok (.iload_n 1, 1) := by decide +kernel
theorem d_Pl_extend_44 : decode cd_Pl_extend 44 = .ok (.iconst 3, 1) := by decide +kernel
theorem d_Pl_extend_45 : decode cd_Pl_extend 45 = .ok (.if_icmp .ne 13, 3) := by decide +kernel
theorem d_Pl_extend_48 : decode cd_Pl_extend 48 = .ok (.iload 4, 2) := by decide +kernel
theorem d_Pl_extend_50 : decode cd_Pl_extend 50 = .ok (.iload 6, 2) := by decide +kernel
theorem d_Pl_extend_52 : decode cd_Pl_extend 52 = .ok (.iadd, 1) := by decide +kernel
theorem d_Pl_extend_53 : decode cd_Pl_extend 53 = .ok (.iload_n 2, 1) := by decide +kernel
theorem d_Pl_extend_54 : decode cd_Pl_extend 54 = .ok (.isub, 1) := by decide +kernel
theorem d_Pl_extend_55 : decode cd_Pl_extend 55 = .ok (.goto 4, 3) := by decide +kernel
theorem d_Pl_extend_58 : decode cd_Pl_extend 58 = .ok (.iconst (-1), 1) := by decide +kernel
theorem d_Pl_extend_59 : decode cd_Pl_extend 59 = .ok (.istore 9, 2) := by decide +kernel
theorem d_Pl_extend_61 : decode cd_Pl_extend 61 = .ok (.aload_n 0, 1) := by decide +kernel
theorem d_Pl_extend_62 : decode cd_Pl_extend 62 = .ok (.iload_n 1, 1) := by decide +kernel
theorem d_Pl_extend_63 : decode cd_Pl_extend 63 = .ok (.iload 9, 2) := by decide +kernel
theorem d_Pl_extend_65 : decode cd_Pl_extend 65 = .ok (.iload 7, 2) := by decide +kernel
theorem d_Pl_extend_67 : decode cd_Pl_extend 67 = .ok (.invokevirtual 44, 3) := by decide +kernel
theorem d_Pl_extend_70 : decode cd_Pl_extend 70 = .ok (.ifCond .eq 22, 3) := by decide +kernel
theorem d_Pl_extend_73 : decode cd_Pl_extend 73 = .ok (.aload_n 0, 1) := by decide +kernel
theorem d_Pl_extend_74 : decode cd_Pl_extend 74 = .ok (.getfield 15, 3) := by decide +kernel
theorem d_Pl_extend_77 : decode cd_Pl_extend 77 = .ok (.aload_n 0, 1) := by decide +kernel
theorem d_Pl_extend_78 : decode cd_Pl_extend 78 = .ok (.getfield 35, 3) := by decide +kernel
theorem d_Pl_extend_81 : decode cd_Pl_extend 81 = .ok (.iconst 1, 1) := by decide +kernel
theorem d_Pl_extend_82 : decode cd_Pl_extend 82 = .ok (.isub, 1) := by decide +kernel
theorem d_Pl_extend_83 : decode cd_Pl_extend 83 = .ok (.dup2, 1) := by decide +kernel
theorem d_Pl_extend_84 : decode cd_Pl_extend 84 = .ok (.iaload, 1) := by decide +kernel
theorem d_Pl_extend_85 : decode cd_Pl_extend 85 = .ok (.iload 8, 2) := by decide +kernel
theorem d_Pl_extend_87 : decode cd_Pl_extend 87 = .ok (.iadd, 1) := by decide +kernel
theorem d_Pl_extend_88 : decode cd_Pl_extend 88 = .ok (.iastore, 1) := by decide +kernel
theorem d_Pl_extend_89 : decode cd_Pl_extend 89 = .ok (.goto 14, 3) := by decide +kernel
theorem d_Pl_extend_92 : decode cd_Pl_extend 92 = .ok (.aload_n 0, 1) := by decide +kernel
theorem d_Pl_extend_93 : decode cd_Pl_extend 93 = .ok (.iload_n 1, 1) := by decide +kernel
theorem d_Pl_extend_94 : decode cd_Pl_extend 94 = .ok (.iload 8, 2) := by decide +kernel
theorem d_Pl_extend_96 : decode cd_Pl_extend 96 = .ok (.iload 9, 2) := by decide +kernel
theorem d_Pl_extend_98 : decode cd_Pl_extend 98 = .ok (.iload 7, 2) := by decide +kernel
theorem d_Pl_extend_100 : decode cd_Pl_extend 100 = .ok (.invokevirtual 48, 3) := by decide +kernel
theorem d_Pl_extend_103 : decode cd_Pl_extend 103 = .ok (.iload 6, 2) := by decide +kernel
theorem d_Pl_extend_105 : decode cd_Pl_extend 105 = .ok (.iload 8, 2) := by decide +kernel
theorem d_Pl_extend_107 : decode cd_Pl_extend 107 = .ok (.iconst 1, 1) := by decide +kernel
theorem d_Pl_extend_108 : decode cd_Pl_extend 108 = .ok (.isub, 1) := by decide +kernel
theorem d_Pl_extend_109 : decode cd_Pl_extend 109 = .ok (.iadd, 1) := by decide +kernel
theorem d_Pl_extend_110 : decode cd_Pl_extend 110 = .ok (.istore 6, 2) := by decide +kernel
theorem d_Pl_extend_112 : decode cd_Pl_extend 112 = .ok (.iinc 6 1, 3) := by decide +kernel
theorem d_Pl_extend_115 : decode cd_Pl_extend 115 = .ok (.goto (-107), 3) := by decide +kernel
theorem d_Pl_extend_118 : decode cd_Pl_extend 118 = .ok (.return_, 1) := by decide +kernel
theorem d_Pl_goesOn_0 : decode cd_Pl_goesOn 0 = .ok (.aload_n 0, 1) := by decide +kernel
theorem d_Pl_goesOn_1 : decode cd_Pl_goesOn 1 = .ok (.getfield 35, 3) := by decide +kernel
theorem d_Pl_goesOn_4 : decode cd_Pl_goesOn 4 = .ok (.iconst 1, 1) := by decide +kernel
theorem d_Pl_goesOn_5 : decode cd_Pl_goesOn 5 = .ok (.isub, 1) := by decide +kernel
theorem d_Pl_goesOn_6 : decode cd_Pl_goesOn 6 = .ok (.istore 4, 2) := by decide +kernel
theorem d_Pl_goesOn_8 : decode cd_Pl_goesOn 8 = .ok (.iload 4, 2) := by decide +kernel
theorem d_Pl_goesOn_10 : decode cd_Pl_goesOn 10 = .ok (.ifCond .lt 25, 3) := by decide +kernel
theorem d_Pl_goesOn_13 : decode cd_Pl_goesOn 13 = .ok (.aload_n 0, 1) := by decide +kernel
theorem d_Pl_goesOn_14 : decode cd_Pl_goesOn 14 = .ok (.getfield 9, 3) := by decide +kernel
theorem d_Pl_goesOn_17 : decode cd_Pl_goesOn 17 = .ok (.iload 4, 2) := by decide +kernel
theorem d_Pl_goesOn_19 : decode cd_Pl_goesOn 19 = .ok (.iaload, 1) := by decide +kernel
theorem d_Pl_goesOn_20 : decode cd_Pl_goesOn 20 = .ok (.iload_n 1, 1) := by decide +kernel
theorem d_Pl_goesOn_21 : decode cd_Pl_goesOn 21 = .ok (.if_icmp .ne 14, 3) := by decide +kernel
theorem d_Pl_goesOn_24 : decode cd_Pl_goesOn 24 = .ok (.aload_n 0, 1) := by decide +kernel
theorem d_Pl_goesOn_25 : decode cd_Pl_goesOn 25 = .ok (.getfield 21, 3) := by decide +kernel
theorem d_Pl_goesOn_28 : decode cd_Pl_goesOn 28 = .ok (.iload 4, 2) := by decide +kernel
theorem d_Pl_goesOn_30 : decode cd_Pl_goesOn 30 = .ok (.iaload, 1) := by decide +kernel
theorem d_Pl_goesOn_31 : decode cd_Pl_goesOn 31 = .ok (.iload_n 3, 1) := by decide +kernel
theorem d_Pl_goesOn_32 : decode cd_Pl_goesOn 32 = .ok (.if_icmp .eq 5, 3) := by decide +kernel
theorem d_Pl_goesOn_35 : decode cd_Pl_goesOn 35 = .ok (.iconst 0, 1) := by decide +kernel
theorem d_Pl_goesOn_36 : decode cd_Pl_goesOn 36 = .ok (.ireturn, 1) := by decide +kernel
theorem d_Pl_goesOn_37 : decode cd_Pl_goesOn 37 = .ok (.iload_n 1, 1) := by decide +kernel
theorem d_Pl_goesOn_38 : decode cd_Pl_goesOn 38 = .ok (.iconst 1, 1) := by decide +kernel
theorem d_Pl_goesOn_39 : decode cd_Pl_goesOn 39 = .ok (.if_icmp .eq 22, 3) := by decide +kernel
theorem d_Pl_goesOn_42 : decode cd_Pl_goesOn 42 = .ok (.aload_n 0, 1) := by decide +kernel
theorem d_Pl_goesOn_43 : decode cd_Pl_goesOn 43 = .ok (.getfield 18, 3) := by decide +kernel
theorem d_Pl_goesOn_46 : decode cd_Pl_goesOn 46 = .ok (.iload 4, 2) := by decide +kernel
theorem d_Pl_goesOn_48 : decode cd_Pl_goesOn 48 = .ok (.iaload, 1) := by decide +kernel
theorem d_Pl_goesOn_49 : decode cd_Pl_goesOn 49 = .ok (.aload_n 0, 1) := by decide +kernel
theorem d_Pl_goesOn_50 : decode cd_Pl_goesOn 50 = .ok (.getfield 15, 3) := by decide +kernel
theorem d_Pl_goesOn_53 : decode cd_Pl_goesOn 53 = .ok (.iload 4, 2) := by decide +kernel
theorem d_Pl_goesOn_55 : decode cd_Pl_goesOn 55 = .ok (.iaload, 1) := by decide +kernel
theorem d_Pl_goesOn_56 : decode cd_Pl_goesOn 56 = .ok (.iadd, 1) := by decide +kernel
theorem d_Pl_goesOn_57 : decode cd_Pl_goesOn 57 = .ok (.iload_n 2, 1) := by decide +kernel
theorem d_Pl_goesOn_58 : decode cd_Pl_goesOn 58 = .ok (.if_icmp .ne 7, 3) := by decide +kernel
theorem d_Pl_goesOn_61 : decode cd_Pl_goesOn 61 = .ok (.iconst 1, 1) := by decide +kernel
theorem d_Pl_goesOn_62 : decode cd_Pl_goesOn 62 = .ok (.goto 4, 3) := by decide +kernel
theorem d_Pl_goesOn_65 : decode cd_Pl_goesOn 65 = .ok (.iconst 0, 1) := by decide +kernel
theorem d_Pl_goesOn_66 : decode cd_Pl_goesOn 66 = .ok (.ireturn, 1) := by decide +kernel
