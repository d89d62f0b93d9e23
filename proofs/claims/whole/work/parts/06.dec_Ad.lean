theorem d_Ad_init_0 : decode cd_Ad_init 0 = .ok (.aload_n 0, 1) := by decide +kernel
theorem d_Ad_init_1 : decode cd_Ad_init 1 = .ok (.invokespecial 3, 3) := by decide +kernel
theorem d_Ad_init_4 : decode cd_Ad_init 4 = .ok (.aload_n 0, 1) := by decide +kernel
theorem d_Ad_init_5 : decode cd_Ad_init 5 = .ok (.bipush 8, 2) := by decide +kernel
theorem d_Ad_init_7 : decode cd_Ad_init 7 = .ok (.newarray .int, 2) := by decide +kernel
theorem d_Ad_init_9 : decode cd_Ad_init 9 = .ok (.putfield 9, 3) := by decide +kernel
theorem d_Ad_init_12 : decode cd_Ad_init 12 = .ok (.aload_n 0, 1) := by decide +kernel
theorem d_Ad_init_13 : decode cd_Ad_init 13 = .ok (.sipush 1024, 3) := by decide +kernel
theorem d_Ad_init_16 : decode cd_Ad_init 16 = .ok (.newarray .int, 2) := by decide +kernel
theorem d_Ad_init_18 : decode cd_Ad_init 18 = .ok (.putfield 15, 3) := by decide +kernel
theorem d_Ad_init_21 : decode cd_Ad_init 21 = .ok (.return_, 1) := by decide +kernel
theorem d_Ad_open_0 : decode cd_Ad_open 0 = .ok (.aload_n 0, 1) := by decide +kernel
theorem d_Ad_open_1 : decode cd_Ad_open 1 = .ok (.iload_n 1, 1) := by decide +kernel
theorem d_Ad_open_2 : decode cd_Ad_open 2 = .ok (.putfield 18, 3) := by decide +kernel
theorem d_Ad_open_5 : decode cd_Ad_open 5 = .ok (.aload_n 0, 1) := by decide +kernel
theorem d_Ad_open_6 : decode cd_Ad_open 6 = .ok (.iload_n 2, 1) := by decide +kernel
theorem d_Ad_open_7 : decode cd_Ad_open 7 = .ok (.putfield 22, 3) := by decide +kernel
theorem d_Ad_open_10 : decode cd_Ad_open 10 = .ok (.aload_n 0, 1) := by decide +kernel
theorem d_Ad_open_11 : decode cd_Ad_open 11 = .ok (.iconst 0, 1) := by decide +kernel
theorem d_Ad_open_12 : decode cd_Ad_open 12 = .ok (.putfield 25, 3) := by decide +kernel
theorem d_Ad_open_15 : decode cd_Ad_open 15 = .ok (.aload_n 0, 1) := by decide +kernel
theorem d_Ad_open_16 : decode cd_Ad_open 16 = .ok (.getfield 9, 3) := by decide +kernel
theorem d_Ad_open_19 : decode cd_Ad_open 19 = .ok (.iconst 0, 1) := by decide +kernel
theorem d_Ad_open_20 : decode cd_Ad_open 20 = .ok (.invokestatic 28, 3) := by decide +kernel
theorem d_Ad_open_23 : decode cd_Ad_open 23 = .ok (.aload_n 0, 1) := by decide +kernel
theorem d_Ad_open_24 : decode cd_Ad_open 24 = .ok (.getfield 15, 3) := by decide +kernel
theorem d_Ad_open_27 : decode cd_Ad_open 27 = .ok (.iconst 0, 1) := by decide +kernel
theorem d_Ad_open_28 : decode cd_Ad_open 28 = .ok (.invokestatic 28, 3) := by decide +kernel
theorem d_Ad_open_31 : decode cd_Ad_open 31 = .ok (.return_, 1) := by decide +kernel
theorem d_Ad_tell_0 : decode cd_Ad_tell 0 = .ok (.aload_n 0, 1) := by decide +kernel
theorem d_Ad_tell_1 : decode cd_Ad_tell 1 = .ok (.iload_n 1, 1) := by decide +kernel
theorem d_Ad_tell_2 : decode cd_Ad_tell 2 = .ok (.iload_n 2, 1) := by decide +kernel
theorem d_Ad_tell_3 : decode cd_Ad_tell 3 = .ok (.invokevirtual 34, 3) := by decide +kernel
theorem d_Ad_tell_6 : decode cd_Ad_tell 6 = .ok (.istore 4, 2) := by decide +kernel
theorem d_Ad_tell_8 : decode cd_Ad_tell 8 = .ok (.iload 4, 2) := by decide +kernel
theorem d_Ad_tell_10 : decode cd_Ad_tell 10 = .ok (.iconst 2, 1) := by decide +kernel
theorem d_Ad_tell_11 : decode cd_Ad_tell 11 = .ok (.aload_n 0, 1) := by decide +kernel
theorem d_Ad_tell_12 : decode cd_Ad_tell 12 = .ok (.getfield 18, 3) := by decide +kernel
theorem d_Ad_tell_15 : decode cd_Ad_tell 15 = .ok (.iadd, 1) := by decide +kernel
theorem d_Ad_tell_16 : decode cd_Ad_tell 16 = .ok (.if_icmp .lt 15, 3) := by decide +kernel
theorem d_Ad_tell_19 : decode cd_Ad_tell 19 = .ok (.aload_n 3, 1) := by decide +kernel
theorem d_Ad_tell_20 : decode cd_Ad_tell 20 = .ok (.iload_n 1, 1) := by decide +kernel
theorem d_Ad_tell_21 : decode cd_Ad_tell 21 = .ok (.sipush 256, 3) := by decide +kernel
theorem d_Ad_tell_24 : decode cd_Ad_tell 24 = .ok (.irem, 1) := by decide +kernel
theorem d_Ad_tell_25 : decode cd_Ad_tell 25 = .ok (.invokevirtual 38, 3) := by decide +kernel
theorem d_Ad_tell_28 : decode cd_Ad_tell 28 = .ok (.goto 15, 3) := by decide +kernel
theorem d_Ad_tell_31 : decode cd_Ad_tell 31 = .ok (.aload_n 3, 1) := by decide +kernel
theorem d_Ad_tell_32 : decode cd_Ad_tell 32 = .ok (.aload_n 0, 1) := by decide +kernel
theorem d_Ad_tell_33 : decode cd_Ad_tell 33 = .ok (.iload 4, 2) := by decide +kernel
theorem d_Ad_tell_35 : decode cd_Ad_tell 35 = .ok (.iload_n 1, 1) := by decide +kernel
theorem d_Ad_tell_36 : decode cd_Ad_tell 36 = .ok (.iload_n 2, 1) := by decide +kernel
theorem d_Ad_tell_37 : decode cd_Ad_tell 37 = .ok (.invokevirtual 44, 3) := by decide +kernel
theorem d_Ad_tell_40 : decode cd_Ad_tell 40 = .ok (.invokevirtual 48, 3) := by decide +kernel
theorem d_Ad_tell_43 : decode cd_Ad_tell 43 = .ok (.aload_n 0, 1) := by decide +kernel
theorem d_Ad_tell_44 : decode cd_Ad_tell 44 = .ok (.iload_n 1, 1) := by decide +kernel
theorem d_Ad_tell_45 : decode cd_Ad_tell 45 = .ok (.invokevirtual 51, 3) := by decide +kernel
theorem d_Ad_tell_48 : decode cd_Ad_tell 48 = .ok (.iload 4, 2) := by decide +kernel
theorem d_Ad_tell_50 : decode cd_Ad_tell 50 = .ok (.ireturn, 1) := by decide +kernel
theorem d_Ad_hear_0 : decode cd_Ad_hear 0 = .ok (.iconst (-1), 1) := by decide +kernel
theorem d_Ad_hear_1 : decode cd_Ad_hear 1 = .ok (.istore 4, 2) := by decide +kernel
theorem d_Ad_hear_3 : decode cd_Ad_hear 3 = .ok (.iload_n 1, 1) := by decide +kernel
theorem d_Ad_hear_4 : decode cd_Ad_hear 4 = .ok (.iconst 2, 1) := by decide +kernel
theorem d_Ad_hear_5 : decode cd_Ad_hear 5 = .ok (.aload_n 0, 1) := by decide +kernel
theorem d_Ad_hear_6 : decode cd_Ad_hear 6 = .ok (.getfield 18, 3) := by decide +kernel
theorem d_Ad_hear_9 : decode cd_Ad_hear 9 = .ok (.iadd, 1) := by decide +kernel
theorem d_Ad_hear_10 : decode cd_Ad_hear 10 = .ok (.if_icmp .ge 53, 3) := by decide +kernel
theorem d_Ad_hear_13 : decode cd_Ad_hear 13 = .ok (.aload_n 3, 1) := by decide +kernel
theorem d_Ad_hear_14 : decode cd_Ad_hear 14 = .ok (.invokevirtual 54, 3) := by decide +kernel
theorem d_Ad_hear_17 : decode cd_Ad_hear 17 = .ok (.istore 5, 2) := by decide +kernel
theorem d_Ad_hear_19 : decode cd_Ad_hear 19 = .ok (.iload 5, 2) := by decide +kernel
theorem d_Ad_hear_21 : decode cd_Ad_hear 21 = .ok (.ifCond .ge 5, 3) := by decide +kernel
theorem d_Ad_hear_24 : decode cd_Ad_hear 24 = .ok (.iconst (-1), 1) := by decide +kernel
theorem d_Ad_hear_25 : decode cd_Ad_hear 25 = .ok (.ireturn, 1) := by decide +kernel
theorem d_Ad_hear_26 : decode cd_Ad_hear 26 = .ok (.iload_n 1, 1) := by decide +kernel
theorem d_Ad_hear_27 : decode cd_Ad_hear 27 = .ok (.ifCond .ne 8, 3) := by decide +kernel
theorem d_Ad_hear_30 : decode cd_Ad_hear 30 = .ok (.iload 5, 2) := by decide +kernel
theorem d_Ad_hear_32 : decode cd_Ad_hear 32 = .ok (.goto 26, 3) := by decide +kernel
theorem d_Ad_hear_35 : decode cd_Ad_hear 35 = .ok (.iload_n 1, 1) := by decide +kernel
theorem d_Ad_hear_36 : decode cd_Ad_hear 36 = .ok (.iconst 1, 1) := by decide +kernel
theorem d_Ad_hear_37 : decode cd_Ad_hear 37 = .ok (.if_icmp .ne 10, 3) := by decide +kernel
theorem d_Ad_hear_40 : decode cd_Ad_hear 40 = .ok (.iload_n 2, 1) := by decide +kernel
theorem d_Ad_hear_41 : decode cd_Ad_hear 41 = .ok (.iload 5, 2) := by decide +kernel
theorem d_Ad_hear_43 : decode cd_Ad_hear 43 = .ok (.isub, 1) := by decide +kernel
theorem d_Ad_hear_44 : decode cd_Ad_hear 44 = .ok (.goto 14, 3) := by decide +kernel
theorem d_Ad_hear_47 : decode cd_Ad_hear 47 = .ok (.aload_n 0, 1) := by decide +kernel
theorem d_Ad_hear_48 : decode cd_Ad_hear 48 = .ok (.getfield 9, 3) := by decide +kernel
theorem d_Ad_hear_51 : decode cd_Ad_hear 51 = .ok (.iload_n 1, 1) := by decide +kernel
theorem d_Ad_hear_52 : decode cd_Ad_hear 52 = .ok (.iconst 2, 1) := by decide +kernel
theorem d_Ad_hear_53 : decode cd_Ad_hear 53 = .ok (.isub, 1) := by decide +kernel
theorem d_Ad_hear_54 : decode cd_Ad_hear 54 = .ok (.iaload, 1) := by decide +kernel
theorem d_Ad_hear_55 : decode cd_Ad_hear 55 = .ok (.iload 5, 2) := by decide +kernel
theorem d_Ad_hear_57 : decode cd_Ad_hear 57 = .ok (.iadd, 1) := by decide +kernel
theorem d_Ad_hear_58 : decode cd_Ad_hear 58 = .ok (.istore 4, 2) := by decide +kernel
theorem d_Ad_hear_60 : decode cd_Ad_hear 60 = .ok (.goto 53, 3) := by decide +kernel
theorem d_Ad_hear_63 : decode cd_Ad_hear 63 = .ok (.iload_n 1, 1) := by decide +kernel
theorem d_Ad_hear_64 : decode cd_Ad_hear 64 = .ok (.iconst 2, 1) := by decide +kernel
theorem d_Ad_hear_65 : decode cd_Ad_hear 65 = .ok (.aload_n 0, 1) := by decide +kernel
theorem d_Ad_hear_66 : decode cd_Ad_hear 66 = .ok (.getfield 18, 3) := by decide +kernel
theorem d_Ad_hear_69 : decode cd_Ad_hear 69 = .ok (.iadd, 1) := by decide +kernel
theorem d_Ad_hear_70 : decode cd_Ad_hear 70 = .ok (.aload_n 0, 1) := by decide +kernel
theorem d_Ad_hear_71 : decode cd_Ad_hear 71 = .ok (.getfield 22, 3) := by decide +kernel
theorem d_Ad_hear_74 : decode cd_Ad_hear 74 = .ok (.iadd, 1) := by decide +kernel
theorem d_Ad_hear_75 : decode cd_Ad_hear 75 = .ok (.if_icmp .ge 38, 3) := by decide +kernel
theorem d_Ad_hear_78 : decode cd_Ad_hear 78 = .ok (.aload_n 3, 1) := by decide +kernel
theorem d_Ad_hear_79 : decode cd_Ad_hear 79 = .ok (.invokevirtual 60, 3) := by decide +kernel
theorem d_Ad_hear_82 : decode cd_Ad_hear 82 = .ok (.istore 5, 2) := by decide +kernel
theorem d_Ad_hear_84 : decode cd_Ad_hear 84 = .ok (.iload 5, 2) := by decide +kernel
theorem d_Ad_hear_86 : decode cd_Ad_hear 86 = .ok (.ifCond .ge 5, 3) := by decide +kernel
theorem d_Ad_hear_89 : decode cd_Ad_hear 89 = .ok (.iconst (-1), 1) := by decide +kernel
theorem d_Ad_hear_90 : decode cd_Ad_hear 90 = .ok (.ireturn, 1) := by decide +kernel
theorem d_Ad_hear_91 : decode cd_Ad_hear 91 = .ok (.aload_n 0, 1) := by decide +kernel
theorem d_Ad_hear_92 : decode cd_Ad_hear 92 = .ok (.getfield 15, 3) := by decide +kernel
theorem d_Ad_hear_95 : decode cd_Ad_hear 95 = .ok (.sipush 256, 3) := by decide +kernel
theorem d_Ad_hear_98 : decode cd_Ad_hear 98 = .ok (.iload_n 1, 1) := by decide +kernel
theorem d_Ad_hear_99 : decode cd_Ad_hear 99 = .ok (.iconst 2, 1) := by decide +kernel
theorem d_Ad_hear_100 : decode cd_Ad_hear 100 = .ok (.isub, 1) := by decide +kernel
theorem d_Ad_hear_101 : decode cd_Ad_hear 101 = .ok (.aload_n 0, 1) := by decide +kernel
theorem d_Ad_hear_102 : decode cd_Ad_hear 102 = .ok (.getfield 18, 3) := by decide +kernel
theorem d_Ad_hear_105 : decode cd_Ad_hear 105 = .ok (.isub, 1) := by decide +kernel
theorem d_Ad_hear_106 : decode cd_Ad_hear 106 = .ok (.imul, 1) := by decide +kernel
theorem d_Ad_hear_107 : decode cd_Ad_hear 107 = .ok (.iload 5, 2) := by decide +kernel
theorem d_Ad_hear_109 : decode cd_Ad_hear 109 = .ok (.iadd, 1) := by decide +kernel
theorem d_Ad_hear_110 : decode cd_Ad_hear 110 = .ok (.iaload, 1) := by decide +kernel
theorem d_Ad_hear_111 : decode cd_Ad_hear 111 = .ok (.istore 4, 2) := by decide +kernel
theorem d_Ad_hear_113 : decode cd_Ad_hear 113 = .ok (.iload 4, 2) := by decide +kernel
theorem d_Ad_hear_115 : decode cd_Ad_hear 115 = .ok (.ifCond .lt 9, 3) := by decide +kernel
theorem d_Ad_hear_118 : decode cd_Ad_hear 118 = .ok (.iload 4, 2) := by decide +kernel
theorem d_Ad_hear_120 : decode cd_Ad_hear 120 = .ok (.iload_n 2, 1) := by decide +kernel
theorem d_Ad_hear_121 : decode cd_Ad_hear 121 = .ok (.if_icmp .lt 5, 3) := by decide +kernel
theorem d_Ad_hear_124 : decode cd_Ad_hear 124 = .ok (.iconst (-1), 1) := by decide +kernel
theorem d_Ad_hear_125 : decode cd_Ad_hear 125 = .ok (.ireturn, 1) := by decide +kernel
theorem d_Ad_hear_126 : decode cd_Ad_hear 126 = .ok (.aload_n 0, 1) := by decide +kernel
theorem d_Ad_hear_127 : decode cd_Ad_hear 127 = .ok (.iload 4, 2) := by decide +kernel
theorem d_Ad_hear_129 : decode cd_Ad_hear 129 = .ok (.invokevirtual 51, 3) := by decide +kernel
theorem d_Ad_hear_132 : decode cd_Ad_hear 132 = .ok (.iload 4, 2) := by decide +kernel
theorem d_Ad_hear_134 : decode cd_Ad_hear 134 = .ok (.ireturn, 1) := by decide +kernel
theorem d_Ad_modeFor_0 : decode cd_Ad_modeFor 0 = .ok (.aload_n 0, 1) := by decide +kernel
theorem d_Ad_modeFor_1 : decode cd_Ad_modeFor 1 = .ok (.getfield 22, 3) := by decide +kernel
theorem d_Ad_modeFor_4 : decode cd_Ad_modeFor 4 = .ok (.ifCond .le 16, 3) := by decide +kernel
theorem d_Ad_modeFor_7 : decode cd_Ad_modeFor 7 = .ok (.iload_n 1, 1) := by decide +kernel
theorem d_Ad_modeFor_8 : decode cd_Ad_modeFor 8 = .ok (.sipush 256, 3) := by decide +kernel
theorem d_Ad_modeFor_11 : decode cd_Ad_modeFor 11 = .ok (.aload_n 0, 1) := by decide +kernel
theorem d_Ad_modeFor_12 : decode cd_Ad_modeFor 12 = .ok (.getfield 22, 3) := by decide +kernel
theorem d_Ad_modeFor_15 : decode cd_Ad_modeFor 15 = .ok (.imul, 1) := by decide +kernel
theorem d_Ad_modeFor_16 : decode cd_Ad_modeFor 16 = .ok (.irem, 1) := by decide +kernel
theorem d_Ad_modeFor_17 : decode cd_Ad_modeFor 17 = .ok (.goto 4, 3) := by decide +kernel
theorem d_Ad_modeFor_20 : decode cd_Ad_modeFor 20 = .ok (.iconst 0, 1) := by decide +kernel
theorem d_Ad_modeFor_21 : decode cd_Ad_modeFor 21 = .ok (.istore_n 3, 1) := by decide +kernel
theorem d_Ad_modeFor_22 : decode cd_Ad_modeFor 22 = .ok (.aload_n 0, 1) := by decide +kernel
theorem d_Ad_modeFor_23 : decode cd_Ad_modeFor 23 = .ok (.getfield 22, 3) := by decide +kernel
theorem d_Ad_modeFor_26 : decode cd_Ad_modeFor 26 = .ok (.ifCond .le 26, 3) := by decide +kernel
theorem d_Ad_modeFor_29 : decode cd_Ad_modeFor 29 = .ok (.aload_n 0, 1) := by decide +kernel
theorem d_Ad_modeFor_30 : decode cd_Ad_modeFor 30 = .ok (.getfield 15, 3) := by decide +kernel
theorem d_Ad_modeFor_33 : decode cd_Ad_modeFor 33 = .ok (.iload_n 3, 1) := by decide +kernel
theorem d_Ad_modeFor_34 : decode cd_Ad_modeFor 34 = .ok (.iaload, 1) := by decide +kernel
theorem d_Ad_modeFor_35 : decode cd_Ad_modeFor 35 = .ok (.iload_n 1, 1) := by decide +kernel
theorem d_Ad_modeFor_36 : decode cd_Ad_modeFor 36 = .ok (.if_icmp .ne 16, 3) := by decide +kernel
theorem d_Ad_modeFor_39 : decode cd_Ad_modeFor 39 = .ok (.iconst 2, 1) := by decide +kernel
theorem d_Ad_modeFor_40 : decode cd_Ad_modeFor 40 = .ok (.aload_n 0, 1) := by decide +kernel
theorem d_Ad_modeFor_41 : decode cd_Ad_modeFor 41 = .ok (.getfield 18, 3) := by decide +kernel
theorem d_Ad_modeFor_44 : decode cd_Ad_modeFor 44 = .ok (.iadd, 1) := by decide +kernel
theorem d_Ad_modeFor_45 : decode cd_Ad_modeFor 45 = .ok (.iload_n 3, 1) := by decide +kernel
theorem d_Ad_modeFor_46 : decode cd_Ad_modeFor 46 = .ok (.sipush 256, 3) := by decide +kernel
theorem d_Ad_modeFor_49 : decode cd_Ad_modeFor 49 = .ok (.idiv, 1) := by decide +kernel
theorem d_Ad_modeFor_50 : decode cd_Ad_modeFor 50 = .ok (.iadd, 1) := by decide +kernel
theorem d_Ad_modeFor_51 : decode cd_Ad_modeFor 51 = .ok (.ireturn, 1) := by decide +kernel
theorem d_Ad_modeFor_52 : decode cd_Ad_modeFor 52 = .ok (.iconst 0, 1) := by decide +kernel
theorem d_Ad_modeFor_53 : decode cd_Ad_modeFor 53 = .ok (.istore 4, 2) := by decide +kernel
theorem d_Ad_modeFor_55 : decode cd_Ad_modeFor 55 = .ok (.iconst 1, 1) := by decide +kernel
theorem d_Ad_modeFor_56 : decode cd_Ad_modeFor 56 = .ok (.istore 5, 2) := by decide +kernel
theorem d_Ad_modeFor_58 : decode cd_Ad_modeFor 58 = .ok (.iload 5, 2) := by decide +kernel
theorem d_Ad_modeFor_60 : decode cd_Ad_modeFor 60 = .ok (.iconst 2, 1) := by decide +kernel
theorem d_Ad_modeFor_61 : decode cd_Ad_modeFor 61 = .ok (.aload_n 0, 1) := by decide +kernel
theorem d_Ad_modeFor_62 : decode cd_Ad_modeFor 62 = .ok (.getfield 18, 3) := by decide +kernel
theorem d_Ad_modeFor_65 : decode cd_Ad_modeFor 65 = .ok (.iadd, 1) := by decide +kernel
theorem d_Ad_modeFor_66 : decode cd_Ad_modeFor 66 = .ok (.if_icmp .ge 41, 3) := by decide +kernel
theorem d_Ad_modeFor_69 : decode cd_Ad_modeFor 69 = .ok (.aload_n 0, 1) := by decide +kernel
theorem d_Ad_modeFor_70 : decode cd_Ad_modeFor 70 = .ok (.iload 5, 2) := by decide +kernel
theorem d_Ad_modeFor_72 : decode cd_Ad_modeFor 72 = .ok (.iload_n 1, 1) := by decide +kernel
theorem d_Ad_modeFor_73 : decode cd_Ad_modeFor 73 = .ok (.iload_n 2, 1) := by decide +kernel
theorem d_Ad_modeFor_74 : decode cd_Ad_modeFor 74 = .ok (.invokevirtual 44, 3) := by decide +kernel
theorem d_Ad_modeFor_77 : decode cd_Ad_modeFor 77 = .ok (.istore 6, 2) := by decide +kernel
theorem d_Ad_modeFor_79 : decode cd_Ad_modeFor 79 = .ok (.iload 6, 2) := by decide +kernel
theorem d_Ad_modeFor_81 : decode cd_Ad_modeFor 81 = .ok (.ifCond .lt 20, 3) := by decide +kernel
theorem d_Ad_modeFor_84 : decode cd_Ad_modeFor 84 = .ok (.iload 6, 2) := by decide +kernel
theorem d_Ad_modeFor_86 : decode cd_Ad_modeFor 86 = .ok (.aload_n 0, 1) := by decide +kernel
theorem d_Ad_modeFor_87 : decode cd_Ad_modeFor 87 = .ok (.iload 4, 2) := by decide +kernel
theorem d_Ad_modeFor_89 : decode cd_Ad_modeFor 89 = .ok (.iload_n 1, 1) := by decide +kernel
theorem d_Ad_modeFor_90 : decode cd_Ad_modeFor 90 = .ok (.iload_n 2, 1) := by decide +kernel
theorem d_Ad_modeFor_91 : decode cd_Ad_modeFor 91 = .ok (.invokevirtual 44, 3) := by decide +kernel
theorem d_Ad_modeFor_94 : decode cd_Ad_modeFor 94 = .ok (.if_icmp .ge 7, 3) := by decide +kernel
theorem d_Ad_modeFor_97 : decode cd_Ad_modeFor 97 = .ok (.iload 5, 2) := by decide +kernel
theorem d_Ad_modeFor_99 : decode cd_Ad_modeFor 99 = .ok (.istore 4, 2) := by decide +kernel
theorem d_Ad_modeFor_101 : decode cd_Ad_modeFor 101 = .ok (.iinc 5 1, 3) := by decide +kernel
theorem d_Ad_modeFor_104 : decode cd_Ad_modeFor 104 = .ok (.goto (-46), 3) := by decide +kernel
theorem d_Ad_modeFor_107 : decode cd_Ad_modeFor 107 = .ok (.iload 4, 2) := by decide +kernel
theorem d_Ad_modeFor_109 : decode cd_Ad_modeFor 109 = .ok (.ireturn, 1) := by decide +kernel
theorem d_Ad_numberFor_0 : decode cd_Ad_numberFor 0 = .ok (.iload_n 1, 1) := by decide +kernel
theorem d_Ad_numberFor_1 : decode cd_Ad_numberFor 1 = .ok (.ifCond .ne 7, 3) := by decide +kernel
theorem d_Ad_numberFor_4 : decode cd_Ad_numberFor 4 = .ok (.iload_n 2, 1) := by decide +kernel
theorem d_Ad_numberFor_5 : decode cd_Ad_numberFor 5 = .ok (.goto 24, 3) := by decide +kernel
theorem d_Ad_numberFor_8 : decode cd_Ad_numberFor 8 = .ok (.iload_n 1, 1) := by decide +kernel
theorem d_Ad_numberFor_9 : decode cd_Ad_numberFor 9 = .ok (.iconst 1, 1) := by decide +kernel
theorem d_Ad_numberFor_10 : decode cd_Ad_numberFor 10 = .ok (.if_icmp .ne 9, 3) := by decide +kernel
theorem d_Ad_numberFor_13 : decode cd_Ad_numberFor 13 = .ok (.iload_n 3, 1) := by decide +kernel
theorem d_Ad_numberFor_14 : decode cd_Ad_numberFor 14 = .ok (.iload_n 2, 1) := by decide +kernel
theorem d_Ad_numberFor_15 : decode cd_Ad_numberFor 15 = .ok (.isub, 1) := by decide +kernel
theorem d_Ad_numberFor_16 : decode cd_Ad_numberFor 16 = .ok (.goto 13, 3) := by decide +kernel
theorem d_Ad_numberFor_19 : decode cd_Ad_numberFor 19 = .ok (.iload_n 2, 1) := by decide +kernel
theorem d_Ad_numberFor_20 : decode cd_Ad_numberFor 20 = .ok (.aload_n 0, 1) := by decide +kernel
theorem d_Ad_numberFor_21 : decode cd_Ad_numberFor 21 = .ok (.getfield 9, 3) := by decide +kernel
theorem d_Ad_numberFor_24 : decode cd_Ad_numberFor 24 = .ok (.iload_n 1, 1) := by decide +kernel
theorem d_Ad_numberFor_25 : decode cd_Ad_numberFor 25 = .ok (.iconst 2, 1) := by decide +kernel
theorem d_Ad_numberFor_26 : decode cd_Ad_numberFor 26 = .ok (.isub, 1) := by decide +kernel
theorem d_Ad_numberFor_27 : decode cd_Ad_numberFor 27 = .ok (.iaload, 1) := by decide +kernel
theorem d_Ad_numberFor_28 : decode cd_Ad_numberFor 28 = .ok (.isub, 1) := by decide +kernel
theorem d_Ad_numberFor_29 : decode cd_Ad_numberFor 29 = .ok (.ireturn, 1) := by decide +kernel
theorem d_Ad_remember_0 : decode cd_Ad_remember 0 = .ok (.aload_n 0, 1) := by decide +kernel
theorem d_Ad_remember_1 : decode cd_Ad_remember 1 = .ok (.getfield 18, 3) := by decide +kernel
theorem d_Ad_remember_4 : decode cd_Ad_remember 4 = .ok (.ifCond .le 28, 3) := by decide +kernel
theorem d_Ad_remember_7 : decode cd_Ad_remember 7 = .ok (.aload_n 0, 1) := by decide +kernel
theorem d_Ad_remember_8 : decode cd_Ad_remember 8 = .ok (.getfield 9, 3) := by decide +kernel
theorem d_Ad_remember_11 : decode cd_Ad_remember 11 = .ok (.aload_n 0, 1) := by decide +kernel
theorem d_Ad_remember_12 : decode cd_Ad_remember 12 = .ok (.getfield 25, 3) := by decide +kernel
theorem d_Ad_remember_15 : decode cd_Ad_remember 15 = .ok (.iload_n 1, 1) := by decide +kernel
theorem d_Ad_remember_16 : decode cd_Ad_remember 16 = .ok (.iastore, 1) := by decide +kernel
theorem d_Ad_remember_17 : decode cd_Ad_remember 17 = .ok (.aload_n 0, 1) := by decide +kernel
theorem d_Ad_remember_18 : decode cd_Ad_remember 18 = .ok (.aload_n 0, 1) := by decide +kernel
theorem d_Ad_remember_19 : decode cd_Ad_remember 19 = .ok (.getfield 25, 3) := by decide +kernel
theorem d_Ad_remember_22 : decode cd_Ad_remember 22 = .ok (.iconst 1, 1) := by decide +kernel
theorem d_Ad_remember_23 : decode cd_Ad_remember 23 = .ok (.iadd, 1) := by decide +kernel
theorem d_Ad_remember_24 : decode cd_Ad_remember 24 = .ok (.aload_n 0, 1) := by decide +kernel
theorem d_Ad_remember_25 : decode cd_Ad_remember 25 = .ok (.getfield 18, 3) := by decide +kernel
theorem d_Ad_remember_28 : decode cd_Ad_remember 28 = .ok (.irem, 1) := by decide +kernel
theorem d_Ad_remember_29 : decode cd_Ad_remember 29 = .ok (.putfield 25, 3) := by decide +kernel
theorem d_Ad_remember_32 : decode cd_Ad_remember 32 = .ok (.aload_n 0, 1) := by decide +kernel
theorem d_Ad_remember_33 : decode cd_Ad_remember 33 = .ok (.getfield 22, 3) := by decide +kernel
theorem d_Ad_remember_36 : decode cd_Ad_remember 36 = .ok (.ifCond .le 19, 3) := by decide +kernel
theorem d_Ad_remember_39 : decode cd_Ad_remember 39 = .ok (.aload_n 0, 1) := by decide +kernel
theorem d_Ad_remember_40 : decode cd_Ad_remember 40 = .ok (.getfield 15, 3) := by decide +kernel
theorem d_Ad_remember_43 : decode cd_Ad_remember 43 = .ok (.iload_n 1, 1) := by decide +kernel
theorem d_Ad_remember_44 : decode cd_Ad_remember 44 = .ok (.sipush 256, 3) := by decide +kernel
theorem d_Ad_remember_47 : decode cd_Ad_remember 47 = .ok (.aload_n 0, 1) := by decide +kernel
theorem d_Ad_remember_48 : decode cd_Ad_remember 48 = .ok (.getfield 22, 3) := by decide +kernel
theorem d_Ad_remember_51 : decode cd_Ad_remember 51 = .ok (.imul, 1) := by decide +kernel
theorem d_Ad_remember_52 : decode cd_Ad_remember 52 = .ok (.irem, 1) := by decide +kernel
theorem d_Ad_remember_53 : decode cd_Ad_remember 53 = .ok (.iload_n 1, 1) := by decide +kernel
theorem d_Ad_remember_54 : decode cd_Ad_remember 54 = .ok (.iastore, 1) := by decide +kernel
theorem d_Ad_remember_55 : decode cd_Ad_remember 55 = .ok (.return_, 1) := by decide +kernel
