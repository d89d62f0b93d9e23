theorem d_Dg_init_0 : decode cd_Dg_init 0 = .ok (.aload_n 0, 1) := by decide +kernel
theorem d_Dg_init_1 : decode cd_Dg_init 1 = .ok (.invokespecial 1, 3) := by decide +kernel
theorem d_Dg_init_4 : decode cd_Dg_init 4 = .ok (.aload_n 0, 1) := by decide +kernel
theorem d_Dg_init_5 : decode cd_Dg_init 5 = .ok (.iconst 4, 1) := by decide +kernel
theorem d_Dg_init_6 : decode cd_Dg_init 6 = .ok (.newarray .int, 2) := by decide +kernel
theorem d_Dg_init_8 : decode cd_Dg_init 8 = .ok (.putfield 7, 3) := by decide +kernel
theorem d_Dg_init_11 : decode cd_Dg_init 11 = .ok (.aload_n 0, 1) := by decide +kernel
theorem d_Dg_init_12 : decode cd_Dg_init 12 = .ok (.bipush 16, 2) := by decide +kernel
theorem d_Dg_init_14 : decode cd_Dg_init 14 = .ok (.newarray .int, 2) := by decide +kernel
theorem d_Dg_init_16 : decode cd_Dg_init 16 = .ok (.putfield 13, 3) := by decide +kernel
theorem d_Dg_init_19 : decode cd_Dg_init 19 = .ok (.return_, 1) := by decide +kernel
theorem d_Dg_take_0 : decode cd_Dg_take 0 = .ok (.aload_n 0, 1) := by decide +kernel
theorem d_Dg_take_1 : decode cd_Dg_take 1 = .ok (.getfield 7, 3) := by decide +kernel
theorem d_Dg_take_4 : decode cd_Dg_take 4 = .ok (.iconst 0, 1) := by decide +kernel
theorem d_Dg_take_5 : decode cd_Dg_take 5 = .ok (.ldc 16, 2) := by decide +kernel
theorem d_Dg_take_7 : decode cd_Dg_take 7 = .ok (.iastore, 1) := by decide +kernel
theorem d_Dg_take_8 : decode cd_Dg_take 8 = .ok (.aload_n 0, 1) := by decide +kernel
theorem d_Dg_take_9 : decode cd_Dg_take 9 = .ok (.getfield 7, 3) := by decide +kernel
theorem d_Dg_take_12 : decode cd_Dg_take 12 = .ok (.iconst 1, 1) := by decide +kernel
theorem d_Dg_take_13 : decode cd_Dg_take 13 = .ok (.ldc 17, 2) := by decide +kernel
theorem d_Dg_take_15 : decode cd_Dg_take 15 = .ok (.iastore, 1) := by decide +kernel
theorem d_Dg_take_16 : decode cd_Dg_take 16 = .ok (.aload_n 0, 1) := by decide +kernel
theorem d_Dg_take_17 : decode cd_Dg_take 17 = .ok (.getfield 7, 3) := by decide +kernel
theorem d_Dg_take_20 : decode cd_Dg_take 20 = .ok (.iconst 2, 1) := by decide +kernel
theorem d_Dg_take_21 : decode cd_Dg_take 21 = .ok (.ldc 18, 2) := by decide +kernel
theorem d_Dg_take_23 : decode cd_Dg_take 23 = .ok (.iastore, 1) := by decide +kernel
theorem d_Dg_take_24 : decode cd_Dg_take 24 = .ok (.aload_n 0, 1) := by decide +kernel
theorem d_Dg_take_25 : decode cd_Dg_take 25 = .ok (.getfield 7, 3) := by decide +kernel
theorem d_Dg_take_28 : decode cd_Dg_take 28 = .ok (.iconst 3, 1) := by decide +kernel
theorem d_Dg_take_29 : decode cd_Dg_take 29 = .ok (.ldc 19, 2) := by decide +kernel
theorem d_Dg_take_31 : decode cd_Dg_take 31 = .ok (.iastore, 1) := by decide +kernel
theorem d_Dg_take_32 : decode cd_Dg_take 32 = .ok (.iload_n 3, 1) := by decide +kernel
theorem d_Dg_take_33 : decode cd_Dg_take 33 = .ok (.bipush 8, 2) := by decide +kernel
theorem d_Dg_take_35 : decode cd_Dg_take 35 = .ok (.iadd, 1) := by decide +kernel
theorem d_Dg_take_36 : decode cd_Dg_take 36 = .ok (.bipush 64, 2) := by decide +kernel
theorem d_Dg_take_38 : decode cd_Dg_take 38 = .ok (.idiv, 1) := by decide +kernel
theorem d_Dg_take_39 : decode cd_Dg_take 39 = .ok (.iconst 1, 1) := by decide +kernel
theorem d_Dg_take_40 : decode cd_Dg_take 40 = .ok (.iadd, 1) := by decide +kernel
theorem d_Dg_take_41 : decode cd_Dg_take 41 = .ok (.bipush 64, 2) := by decide +kernel
theorem d_Dg_take_43 : decode cd_Dg_take 43 = .ok (.imul, 1) := by decide +kernel
theorem d_Dg_take_44 : decode cd_Dg_take 44 = .ok (.istore 4, 2) := by decide +kernel
theorem d_Dg_take_46 : decode cd_Dg_take 46 = .ok (.iconst 0, 1) := by decide +kernel
theorem d_Dg_take_47 : decode cd_Dg_take 47 = .ok (.istore 5, 2) := by decide +kernel
theorem d_Dg_take_49 : decode cd_Dg_take 49 = .ok (.iload 5, 2) := by decide +kernel
theorem d_Dg_take_51 : decode cd_Dg_take 51 = .ok (.iload 4, 2) := by decide +kernel
theorem d_Dg_take_53 : decode cd_Dg_take 53 = .ok (.if_icmp .ge 115, 3) := by decide +kernel
theorem d_Dg_take_56 : decode cd_Dg_take 56 = .ok (.aload_n 0, 1) := by decide +kernel
theorem d_Dg_take_57 : decode cd_Dg_take 57 = .ok (.getfield 13, 3) := by decide +kernel
theorem d_Dg_take_60 : decode cd_Dg_take 60 = .ok (.iconst 0, 1) := by decide +kernel
theorem d_Dg_take_61 : decode cd_Dg_take 61 = .ok (.invokestatic 20, 3) := by decide +kernel
theorem d_Dg_take_64 : decode cd_Dg_take 64 = .ok (.iconst 0, 1) := by decide +kernel
theorem d_Dg_take_65 : decode cd_Dg_take 65 = .ok (.istore 6, 2) := by decide +kernel
theorem d_Dg_take_67 : decode cd_Dg_take 67 = .ok (.iload 6, 2) := by decide +kernel
theorem d_Dg_take_69 : decode cd_Dg_take 69 = .ok (.bipush 64, 2) := by decide +kernel
theorem d_Dg_take_71 : decode cd_Dg_take 71 = .ok (.if_icmp .ge 66, 3) := by decide +kernel
theorem d_Dg_take_74 : decode cd_Dg_take 74 = .ok (.iload 5, 2) := by decide +kernel
theorem d_Dg_take_76 : decode cd_Dg_take 76 = .ok (.iload 6, 2) := by decide +kernel
theorem d_Dg_take_78 : decode cd_Dg_take 78 = .ok (.iadd, 1) := by decide +kernel
theorem d_Dg_take_79 : decode cd_Dg_take 79 = .ok (.iload_n 3, 1) := by decide +kernel
theorem d_Dg_take_80 : decode cd_Dg_take 80 = .ok (.if_icmp .gt 57, 3) := by decide +kernel
theorem d_Dg_take_83 : decode cd_Dg_take 83 = .ok (.iload 5, 2) := by decide +kernel
theorem d_Dg_take_85 : decode cd_Dg_take 85 = .ok (.iload 6, 2) := by decide +kernel
theorem d_Dg_take_87 : decode cd_Dg_take 87 = .ok (.iadd, 1) := by decide +kernel
theorem d_Dg_take_88 : decode cd_Dg_take 88 = .ok (.iload_n 3, 1) := by decide +kernel
theorem d_Dg_take_89 : decode cd_Dg_take 89 = .ok (.if_icmp .ge 15, 3) := by decide +kernel
theorem d_Dg_take_92 : decode cd_Dg_take 92 = .ok (.aload_n 1, 1) := by decide +kernel
theorem d_Dg_take_93 : decode cd_Dg_take 93 = .ok (.iload_n 2, 1) := by decide +kernel
theorem d_Dg_take_94 : decode cd_Dg_take 94 = .ok (.iload 5, 2) := by decide +kernel
theorem d_Dg_take_96 : decode cd_Dg_take 96 = .ok (.iadd, 1) := by decide +kernel
theorem d_Dg_take_97 : decode cd_Dg_take 97 = .ok (.iload 6, 2) := by decide +kernel
theorem d_Dg_take_99 : decode cd_Dg_take 99 = .ok (.iadd, 1) := by decide +kernel
theorem d_Dg_take_100 : decode cd_Dg_take 100 = .ok (.iaload, 1) := by decide +kernel
theorem d_Dg_take_101 : decode cd_Dg_take 101 = .ok (.goto 6, 3) := by decide +kernel
theorem d_Dg_take_104 : decode cd_Dg_take 104 = .ok (.sipush 128, 3) := by decide +kernel
theorem d_Dg_take_107 : decode cd_Dg_take 107 = .ok (.istore 7, 2) := by decide +kernel
theorem d_Dg_take_109 : decode cd_Dg_take 109 = .ok (.aload_n 0, 1) := by decide +kernel
theorem d_Dg_take_110 : decode cd_Dg_take 110 = .ok (.getfield 13, 3) := by decide +kernel
theorem d_Dg_take_113 : decode cd_Dg_take 113 = .ok (.iload 6, 2) := by decide +kernel
theorem d_Dg_take_115 : decode cd_Dg_take 115 = .ok (.iconst 4, 1) := by decide +kernel
theorem d_Dg_take_116 : decode cd_Dg_take 116 = .ok (.idiv, 1) := by decide +kernel
theorem d_Dg_take_117 : decode cd_Dg_take 117 = .ok (.dup2, 1) := by decide +kernel
theorem d_Dg_take_118 : decode cd_Dg_take 118 = .ok (.iaload, 1) := by decide +kernel
theorem d_Dg_take_119 : decode cd_Dg_take 119 = .ok (.iload 7, 2) := by decide +kernel
theorem d_Dg_take_121 : decode cd_Dg_take 121 = .ok (.bipush 8, 2) := by decide +kernel
theorem d_Dg_take_123 : decode cd_Dg_take 123 = .ok (.iload 6, 2) := by decide +kernel
theorem d_Dg_take_125 : decode cd_Dg_take 125 = .ok (.iconst 4, 1) := by decide +kernel
theorem d_Dg_take_126 : decode cd_Dg_take 126 = .ok (.irem, 1) := by decide +kernel
theorem d_Dg_take_127 : decode cd_Dg_take 127 = .ok (.imul, 1) := by decide +kernel
theorem d_Dg_take_128 : decode cd_Dg_take 128 = .ok (.ishl, 1) := by decide +kernel
theorem d_Dg_take_129 : decode cd_Dg_take 129 = .ok (.ior, 1) := by decide +kernel
theorem d_Dg_take_130 : decode cd_Dg_take 130 = .ok (.iastore, 1) := by decide +kernel
theorem d_Dg_take_131 : decode cd_Dg_take 131 = .ok (.iinc 6 1, 3) := by decide +kernel
theorem d_Dg_take_134 : decode cd_Dg_take 134 = .ok (.goto (-67), 3) := by decide +kernel
theorem d_Dg_take_137 : decode cd_Dg_take 137 = .ok (.iload 5, 2) := by decide +kernel
theorem d_Dg_take_139 : decode cd_Dg_take 139 = .ok (.bipush 64, 2) := by decide +kernel
theorem d_Dg_take_141 : decode cd_Dg_take 141 = .ok (.iadd, 1) := by decide +kernel
theorem d_Dg_take_142 : decode cd_Dg_take 142 = .ok (.iload 4, 2) := by decide +kernel
theorem d_Dg_take_144 : decode cd_Dg_take 144 = .ok (.if_icmp .ne 14, 3) := by decide +kernel
theorem d_Dg_take_147 : decode cd_Dg_take 147 = .ok (.aload_n 0, 1) := by decide +kernel
theorem d_Dg_take_148 : decode cd_Dg_take 148 = .ok (.getfield 13, 3) := by decide +kernel
theorem d_Dg_take_151 : decode cd_Dg_take 151 = .ok (.bipush 14, 2) := by decide +kernel
theorem d_Dg_take_153 : decode cd_Dg_take 153 = .ok (.bipush 8, 2) := by decide +kernel
theorem d_Dg_take_155 : decode cd_Dg_take 155 = .ok (.iload_n 3, 1) := by decide +kernel
theorem d_Dg_take_156 : decode cd_Dg_take 156 = .ok (.imul, 1) := by decide +kernel
theorem d_Dg_take_157 : decode cd_Dg_take 157 = .ok (.iastore, 1) := by decide +kernel
theorem d_Dg_take_158 : decode cd_Dg_take 158 = .ok (.aload_n 0, 1) := by decide +kernel
theorem d_Dg_take_159 : decode cd_Dg_take 159 = .ok (.invokevirtual 26, 3) := by decide +kernel
theorem d_Dg_take_162 : decode cd_Dg_take 162 = .ok (.iinc 5 64, 3) := by decide +kernel
theorem d_Dg_take_165 : decode cd_Dg_take 165 = .ok (.goto (-116), 3) := by decide +kernel
theorem d_Dg_take_168 : decode cd_Dg_take 168 = .ok (.return_, 1) := by decide +kernel
theorem d_Dg_firstHalf_0 : decode cd_Dg_firstHalf 0 = .ok (.aload_n 0, 1) := by decide +kernel
theorem d_Dg_firstHalf_1 : decode cd_Dg_firstHalf 1 = .ok (.getfield 7, 3) := by decide +kernel
theorem d_Dg_firstHalf_4 : decode cd_Dg_firstHalf 4 = .ok (.iconst 0, 1) := by decide +kernel
theorem d_Dg_firstHalf_5 : decode cd_Dg_firstHalf 5 = .ok (.iaload, 1) := by decide +kernel
theorem d_Dg_firstHalf_6 : decode cd_Dg_firstHalf 6 = .ok (.invokestatic 29, 3) := by decide +kernel
theorem d_Dg_firstHalf_9 : decode cd_Dg_firstHalf 9 = .ok (.bipush 32, 2) := by decide +kernel
theorem d_Dg_firstHalf_11 : decode cd_Dg_firstHalf 11 = .ok (.lshl, 1) := by decide +kernel
theorem d_Dg_firstHalf_12 : decode cd_Dg_firstHalf 12 = .ok (.aload_n 0, 1) := by decide +kernel
theorem d_Dg_firstHalf_13 : decode cd_Dg_firstHalf 13 = .ok (.getfield 7, 3) := by decide +kernel
theorem d_Dg_firstHalf_16 : decode cd_Dg_firstHalf 16 = .ok (.iconst 1, 1) := by decide +kernel
theorem d_Dg_firstHalf_17 : decode cd_Dg_firstHalf 17 = .ok (.iaload, 1) := by decide +kernel
theorem d_Dg_firstHalf_18 : decode cd_Dg_firstHalf 18 = .ok (.invokestatic 29, 3) := by decide +kernel
theorem d_Dg_firstHalf_21 : decode cd_Dg_firstHalf 21 = .ok (.lor, 1) := by decide +kernel
theorem d_Dg_firstHalf_22 : decode cd_Dg_firstHalf 22 = .ok (.lreturn, 1) := by decide +kernel
theorem d_Dg_lastHalf_0 : decode cd_Dg_lastHalf 0 = .ok (.aload_n 0, 1) := by decide +kernel
theorem d_Dg_lastHalf_1 : decode cd_Dg_lastHalf 1 = .ok (.getfield 7, 3) := by decide +kernel
theorem d_Dg_lastHalf_4 : decode cd_Dg_lastHalf 4 = .ok (.iconst 2, 1) := by decide +kernel
theorem d_Dg_lastHalf_5 : decode cd_Dg_lastHalf 5 = .ok (.iaload, 1) := by decide +kernel
theorem d_Dg_lastHalf_6 : decode cd_Dg_lastHalf 6 = .ok (.invokestatic 29, 3) := by decide +kernel
theorem d_Dg_lastHalf_9 : decode cd_Dg_lastHalf 9 = .ok (.bipush 32, 2) := by decide +kernel
theorem d_Dg_lastHalf_11 : decode cd_Dg_lastHalf 11 = .ok (.lshl, 1) := by decide +kernel
theorem d_Dg_lastHalf_12 : decode cd_Dg_lastHalf 12 = .ok (.aload_n 0, 1) := by decide +kernel
theorem d_Dg_lastHalf_13 : decode cd_Dg_lastHalf 13 = .ok (.getfield 7, 3) := by decide +kernel
theorem d_Dg_lastHalf_16 : decode cd_Dg_lastHalf 16 = .ok (.iconst 3, 1) := by decide +kernel
theorem d_Dg_lastHalf_17 : decode cd_Dg_lastHalf 17 = .ok (.iaload, 1) := by decide +kernel
theorem d_Dg_lastHalf_18 : decode cd_Dg_lastHalf 18 = .ok (.invokestatic 29, 3) := by decide +kernel
theorem d_Dg_lastHalf_21 : decode cd_Dg_lastHalf 21 = .ok (.lor, 1) := by decide +kernel
theorem d_Dg_lastHalf_22 : decode cd_Dg_lastHalf 22 = .ok (.lreturn, 1) := by decide +kernel
theorem d_Dg_mixWords_0 : decode cd_Dg_mixWords 0 = .ok (.aload_n 0, 1) := by decide +kernel
theorem d_Dg_mixWords_1 : decode cd_Dg_mixWords 1 = .ok (.getfield 7, 3) := by decide +kernel
theorem d_Dg_mixWords_4 : decode cd_Dg_mixWords 4 = .ok (.iconst 0, 1) := by decide +kernel
theorem d_Dg_mixWords_5 : decode cd_Dg_mixWords 5 = .ok (.iaload, 1) := by decide +kernel
theorem d_Dg_mixWords_6 : decode cd_Dg_mixWords 6 = .ok (.istore_n 1, 1) := by decide +kernel
theorem d_Dg_mixWords_7 : decode cd_Dg_mixWords 7 = .ok (.aload_n 0, 1) := by decide +kernel
theorem d_Dg_mixWords_8 : decode cd_Dg_mixWords 8 = .ok (.getfield 7, 3) := by decide +kernel
theorem d_Dg_mixWords_11 : decode cd_Dg_mixWords 11 = .ok (.iconst 1, 1) := by decide +kernel
theorem d_Dg_mixWords_12 : decode cd_Dg_mixWords 12 = .ok (.iaload, 1) := by decide +kernel
theorem d_Dg_mixWords_13 : decode cd_Dg_mixWords 13 = .ok (.istore_n 2, 1) := by decide +kernel
theorem d_Dg_mixWords_14 : decode cd_Dg_mixWords 14 = .ok (.aload_n 0, 1) := by decide +kernel
theorem d_Dg_mixWords_15 : decode cd_Dg_mixWords 15 = .ok (.getfield 7, 3) := by decide +kernel
theorem d_Dg_mixWords_18 : decode cd_Dg_mixWords 18 = .ok (.iconst 2, 1) := by decide +kernel
theorem d_Dg_mixWords_19 : decode cd_Dg_mixWords 19 = .ok (.iaload, 1) := by decide +kernel
theorem d_Dg_mixWords_20 : decode cd_Dg_mixWords 20 = .ok (.istore_n 3, 1) := by decide +kernel
theorem d_Dg_mixWords_21 : decode cd_Dg_mixWords 21 = .ok (.aload_n 0, 1) := by decide +kernel
theorem d_Dg_mixWords_22 : decode cd_Dg_mixWords 22 = .ok (.getfield 7, 3) := by decide +kernel
theorem d_Dg_mixWords_25 : decode cd_Dg_mixWords 25 = .ok (.iconst 3, 1) := by decide +kernel
theorem d_Dg_mixWords_26 : decode cd_Dg_mixWords 26 = .ok (.iaload, 1) := by decide +kernel
theorem d_Dg_mixWords_27 : decode cd_Dg_mixWords 27 = .ok (.istore 4, 2) := by decide +kernel
theorem d_Dg_mixWords_29 : decode cd_Dg_mixWords 29 = .ok (.iconst 0, 1) := by decide +kernel
theorem d_Dg_mixWords_30 : decode cd_Dg_mixWords 30 = .ok (.istore 5, 2) := by decide +kernel
theorem d_Dg_mixWords_32 : decode cd_Dg_mixWords 32 = .ok (.iload 5, 2) := by decide +kernel
theorem d_Dg_mixWords_34 : decode cd_Dg_mixWords 34 = .ok (.bipush 64, 2) := by decide +kernel
theorem d_Dg_mixWords_36 : decode cd_Dg_mixWords 36 = .ok (.if_icmp .ge 86, 3) := by decide +kernel
theorem d_Dg_mixWords_39 : decode cd_Dg_mixWords 39 = .ok (.iload_n 1, 1) := by decide +kernel
theorem d_Dg_mixWords_40 : decode cd_Dg_mixWords 40 = .ok (.iload 5, 2) := by decide +kernel
theorem d_Dg_mixWords_42 : decode cd_Dg_mixWords 42 = .ok (.bipush 16, 2) := by decide +kernel
theorem d_Dg_mixWords_44 : decode cd_Dg_mixWords 44 = .ok (.idiv, 1) := by decide +kernel
theorem d_Dg_mixWords_45 : decode cd_Dg_mixWords 45 = .ok (.iload_n 2, 1) := by decide +kernel
theorem d_Dg_mixWords_46 : decode cd_Dg_mixWords 46 = .ok (.iload_n 3, 1) := by decide +kernel
theorem d_Dg_mixWords_47 : decode cd_Dg_mixWords 47 = .ok (.iload 4, 2) := by decide +kernel
theorem d_Dg_mixWords_49 : decode cd_Dg_mixWords 49 = .ok (.invokestatic 33, 3) := by decide +kernel
theorem d_Dg_mixWords_52 : decode cd_Dg_mixWords 52 = .ok (.iadd, 1) := by decide +kernel
theorem d_Dg_mixWords_53 : decode cd_Dg_mixWords 53 = .ok (.getstatic 37, 3) := by decide +kernel
theorem d_Dg_mixWords_56 : decode cd_Dg_mixWords 56 = .ok (.iload 5, 2) := by decide +kernel
theorem d_Dg_mixWords_58 : decode cd_Dg_mixWords 58 = .ok (.iaload, 1) := by decide +kernel
theorem d_Dg_mixWords_59 : decode cd_Dg_mixWords 59 = .ok (.iadd, 1) := by decide +kernel
theorem d_Dg_mixWords_60 : decode cd_Dg_mixWords 60 = .ok (.aload_n 0, 1) := by decide +kernel
theorem d_Dg_mixWords_61 : decode cd_Dg_mixWords 61 = .ok (.getfield 13, 3) := by decide +kernel
theorem d_Dg_mixWords_64 : decode cd_Dg_mixWords 64 = .ok (.iload 5, 2) := by decide +kernel
theorem d_Dg_mixWords_66 : decode cd_Dg_mixWords 66 = .ok (.invokestatic 40, 3) := by decide +kernel
theorem d_Dg_mixWords_69 : decode cd_Dg_mixWords 69 = .ok (.iaload, 1) := by decide +kernel
theorem d_Dg_mixWords_70 : decode cd_Dg_mixWords 70 = .ok (.iadd, 1) := by decide +kernel
theorem d_Dg_mixWords_71 : decode cd_Dg_mixWords 71 = .ok (.istore 6, 2) := by decide +kernel
theorem d_Dg_mixWords_73 : decode cd_Dg_mixWords 73 = .ok (.getstatic 44, 3) := by decide +kernel
theorem d_Dg_mixWords_76 : decode cd_Dg_mixWords 76 = .ok (.iload 5, 2) := by decide +kernel
theorem d_Dg_mixWords_78 : decode cd_Dg_mixWords 78 = .ok (.bipush 16, 2) := by decide +kernel
theorem d_Dg_mixWords_80 : decode cd_Dg_mixWords 80 = .ok (.idiv, 1) := by decide +kernel
theorem d_Dg_mixWords_81 : decode cd_Dg_mixWords 81 = .ok (.iconst 4, 1) := by decide +kernel
theorem d_Dg_mixWords_82 : decode cd_Dg_mixWords 82 = .ok (.imul, 1) := by decide +kernel
theorem d_Dg_mixWords_83 : decode cd_Dg_mixWords 83 = .ok (.iload 5, 2) := by decide +kernel
theorem d_Dg_mixWords_85 : decode cd_Dg_mixWords 85 = .ok (.iconst 4, 1) := by decide +kernel
theorem d_Dg_mixWords_86 : decode cd_Dg_mixWords 86 = .ok (.irem, 1) := by decide +kernel
theorem d_Dg_mixWords_87 : decode cd_Dg_mixWords 87 = .ok (.iadd, 1) := by decide +kernel
theorem d_Dg_mixWords_88 : decode cd_Dg_mixWords 88 = .ok (.iaload, 1) := by decide +kernel
theorem d_Dg_mixWords_89 : decode cd_Dg_mixWords 89 = .ok (.istore 7, 2) := by decide +kernel
theorem d_Dg_mixWords_91 : decode cd_Dg_mixWords 91 = .ok (.iload 4, 2) := by decide +kernel
theorem d_Dg_mixWords_93 : decode cd_Dg_mixWords 93 = .ok (.istore_n 1, 1) := by decide +kernel
theorem d_Dg_mixWords_94 : decode cd_Dg_mixWords 94 = .ok (.iload_n 3, 1) := by decide +kernel
theorem d_Dg_mixWords_95 : decode cd_Dg_mixWords 95 = .ok (.istore 4, 2) := by decide +kernel
theorem d_Dg_mixWords_97 : decode cd_Dg_mixWords 97 = .ok (.iload_n 2, 1) := by decide +kernel
theorem d_Dg_mixWords_98 : decode cd_Dg_mixWords 98 = .ok (.istore_n 3, 1) := by decide +kernel
theorem d_Dg_mixWords_99 : decode cd_Dg_mixWords 99 = .ok (.iload_n 2, 1) := by decide +kernel
theorem d_Dg_mixWords_100 : decode cd_Dg_mixWords 100 = .ok (.iload 6, 2) := by decide +kernel
theorem d_Dg_mixWords_102 : decode cd_Dg_mixWords 102 = .ok (.iload 7, 2) := by decide +kernel
theorem d_Dg_mixWords_104 : decode cd_Dg_mixWords 104 = .ok (.ishl, 1) := by decide +kernel
theorem d_Dg_mixWords_105 : decode cd_Dg_mixWords 105 = .ok (.iload 6, 2) := by decide +kernel
theorem d_Dg_mixWords_107 : decode cd_Dg_mixWords 107 = .ok (.bipush 32, 2) := by decide +kernel
theorem d_Dg_mixWords_109 : decode cd_Dg_mixWords 109 = .ok (.iload 7, 2) := by decide +kernel
theorem d_Dg_mixWords_111 : decode cd_Dg_mixWords 111 = .ok (.isub, 1) := by decide +kernel
theorem d_Dg_mixWords_112 : decode cd_Dg_mixWords 112 = .ok (.iushr, 1) := by decide +kernel
theorem d_Dg_mixWords_113 : decode cd_Dg_mixWords 113 = .ok (.ior, 1) := by decide +kernel
theorem d_Dg_mixWords_114 : decode cd_Dg_mixWords 114 = .ok (.iadd, 1) := by decide +kernel
theorem d_Dg_mixWords_115 : decode cd_Dg_mixWords 115 = .ok (.istore_n 2, 1) := by decide +kernel
theorem d_Dg_mixWords_116 : decode cd_Dg_mixWords 116 = .ok (.iinc 5 1, 3) := by decide +kernel
theorem d_Dg_mixWords_119 : decode cd_Dg_mixWords 119 = .ok (.goto (-87), 3) := by decide +kernel
theorem d_Dg_mixWords_122 : decode cd_Dg_mixWords 122 = .ok (.aload_n 0, 1) := by decide +kernel
theorem d_Dg_mixWords_123 : decode cd_Dg_mixWords 123 = .ok (.getfield 7, 3) := by decide +kernel
theorem d_Dg_mixWords_126 : decode cd_Dg_mixWords 126 = .ok (.iconst 0, 1) := by decide +kernel
theorem d_Dg_mixWords_127 : decode cd_Dg_mixWords 127 = .ok (.dup2, 1) := by decide +kernel
theorem d_Dg_mixWords_128 : decode cd_Dg_mixWords 128 = .ok (.iaload, 1) := by decide +kernel
theorem d_Dg_mixWords_129 : decode cd_Dg_mixWords 129 = .ok (.iload_n 1, 1) := by decide +kernel
theorem d_Dg_mixWords_130 : decode cd_Dg_mixWords 130 = .ok (.iadd, 1) := by decide +kernel
theorem d_Dg_mixWords_131 : decode cd_Dg_mixWords 131 = .ok (.iastore, 1) := by decide +kernel
theorem d_Dg_mixWords_132 : decode cd_Dg_mixWords 132 = .ok (.aload_n 0, 1) := by decide +kernel
theorem d_Dg_mixWords_133 : decode cd_Dg_mixWords 133 = .ok (.getfield 7, 3) := by decide +kernel
theorem d_Dg_mixWords_136 : decode cd_Dg_mixWords 136 = .ok (.iconst 1, 1) := by decide +kernel
theorem d_Dg_mixWords_137 : decode cd_Dg_mixWords 137 = .ok (.dup2, 1) := by decide +kernel
theorem d_Dg_mixWords_138 : decode cd_Dg_mixWords 138 = .ok (.iaload, 1) := by decide +kernel
theorem d_Dg_mixWords_139 : decode cd_Dg_mixWords 139 = .ok (.iload_n 2, 1) := by decide +kernel
theorem d_Dg_mixWords_140 : decode cd_Dg_mixWords 140 = .ok (.iadd, 1) := by decide +kernel
theorem d_Dg_mixWords_141 : decode cd_Dg_mixWords 141 = .ok (.iastore, 1) := by decide +kernel
theorem d_Dg_mixWords_142 : decode cd_Dg_mixWords 142 = .ok (.aload_n 0, 1) := by decide +kernel
theorem d_Dg_mixWords_143 : decode cd_Dg_mixWords 143 = .ok (.getfield 7, 3) := by decide +kernel
theorem d_Dg_mixWords_146 : decode cd_Dg_mixWords 146 = .ok (.iconst 2, 1) := by decide +kernel
theorem d_Dg_mixWords_147 : decode cd_Dg_mixWords 147 = .ok (.dup2, 1) := by decide +kernel
theorem d_Dg_mixWords_148 : decode cd_Dg_mixWords 148 = .ok (.iaload, 1) := by decide +kernel
theorem d_Dg_mixWords_149 : decode cd_Dg_mixWords 149 = .ok (.iload_n 3, 1) := by decide +kernel
theorem d_Dg_mixWords_150 : decode cd_Dg_mixWords 150 = .ok (.iadd, 1) := by decide +kernel
theorem d_Dg_mixWords_151 : decode cd_Dg_mixWords 151 = .ok (.iastore, 1) := by decide +kernel
theorem d_Dg_mixWords_152 : decode cd_Dg_mixWords 152 = .ok (.aload_n 0, 1) := by decide +kernel
theorem d_Dg_mixWords_153 : decode cd_Dg_mixWords 153 = .ok (.getfield 7, 3) := by decide +kernel
theorem d_Dg_mixWords_156 : decode cd_Dg_mixWords 156 = .ok (.iconst 3, 1) := by decide +kernel
theorem d_Dg_mixWords_157 : decode cd_Dg_mixWords 157 = .ok (.dup2, 1) := by decide +kernel
theorem d_Dg_mixWords_158 : decode cd_Dg_mixWords 158 = .ok (.iaload, 1) := by decide +kernel
theorem d_Dg_mixWords_159 : decode cd_Dg_mixWords 159 = .ok (.iload 4, 2) := by decide +kernel
theorem d_Dg_mixWords_161 : decode cd_Dg_mixWords 161 = .ok (.iadd, 1) := by decide +kernel
theorem d_Dg_mixWords_162 : decode cd_Dg_mixWords 162 = .ok (.iastore, 1) := by decide +kernel
theorem d_Dg_mixWords_163 : decode cd_Dg_mixWords 163 = .ok (.return_, 1) := by decide +kernel
theorem d_Dg_mixOf_0 : decode cd_Dg_mixOf 0 = .ok (.iload_n 0, 1) := by decide +kernel
theorem d_Dg_mixOf_1 : decode cd_Dg_mixOf 1 = .ok (.tableswitch 53 0 2 #[27, 37, 47], 27) := by decide +kernel
theorem d_Dg_mixOf_28 : decode cd_Dg_mixOf 28 = .ok (.iload_n 1, 1) := by decide +kernel
theorem d_Dg_mixOf_29 : decode cd_Dg_mixOf 29 = .ok (.iload_n 2, 1) := by decide +kernel
theorem d_Dg_mixOf_30 : decode cd_Dg_mixOf 30 = .ok (.iand, 1) := by decide +kernel
theorem d_Dg_mixOf_31 : decode cd_Dg_mixOf 31 = .ok (.iload_n 1, 1) := by decide +kernel
theorem d_Dg_mixOf_32 : decode cd_Dg_mixOf 32 = .ok (.iconst (-1), 1) := by decide +kernel
theorem d_Dg_mixOf_33 : decode cd_Dg_mixOf 33 = .ok (.ixor, 1) := by decide +kernel
theorem d_Dg_mixOf_34 : decode cd_Dg_mixOf 34 = .ok (.iload_n 3, 1) := by decide +kernel
theorem d_Dg_mixOf_35 : decode cd_Dg_mixOf 35 = .ok (.iand, 1) := by decide +kernel
theorem d_Dg_mixOf_36 : decode cd_Dg_mixOf 36 = .ok (.ior, 1) := by decide +kernel
theorem d_Dg_mixOf_37 : decode cd_Dg_mixOf 37 = .ok (.ireturn, 1) := by decide +kernel
theorem d_Dg_mixOf_38 : decode cd_Dg_mixOf 38 = .ok (.iload_n 3, 1) := by decide +kernel
theorem d_Dg_mixOf_39 : decode cd_Dg_mixOf 39 = .ok (.iload_n 1, 1) := by decide +kernel
theorem d_Dg_mixOf_40 : decode cd_Dg_mixOf 40 = .ok (.iand, 1) := by decide +kernel
theorem d_Dg_mixOf_41 : decode cd_Dg_mixOf 41 = .ok (.iload_n 3, 1) := by decide +kernel
theorem d_Dg_mixOf_42 : decode cd_Dg_mixOf 42 = .ok (.iconst (-1), 1) := by decide +kernel
theorem d_Dg_mixOf_43 : decode cd_Dg_mixOf 43 = .ok (.ixor, 1) := by decide +kernel
theorem d_Dg_mixOf_44 : decode cd_Dg_mixOf 44 = .ok (.iload_n 2, 1) := by decide +kernel
theorem d_Dg_mixOf_45 : decode cd_Dg_mixOf 45 = .ok (.iand, 1) := by decide +kernel
theorem d_Dg_mixOf_46 : decode cd_Dg_mixOf 46 = .ok (.ior, 1) := by decide +kernel
theorem d_Dg_mixOf_47 : decode cd_Dg_mixOf 47 = .ok (.ireturn, 1) := by decide +kernel
theorem d_Dg_mixOf_48 : decode cd_Dg_mixOf 48 = .ok (.iload_n 1, 1) := by decide +kernel
theorem d_Dg_mixOf_49 : decode cd_Dg_mixOf 49 = .ok (.iload_n 2, 1) := by decide +kernel
theorem d_Dg_mixOf_50 : decode cd_Dg_mixOf 50 = .ok (.ixor, 1) := by decide +kernel
theorem d_Dg_mixOf_51 : decode cd_Dg_mixOf 51 = .ok (.iload_n 3, 1) := by decide +kernel
theorem d_Dg_mixOf_52 : decode cd_Dg_mixOf 52 = .ok (.ixor, 1) := by decide +kernel
theorem d_Dg_mixOf_53 : decode cd_Dg_mixOf 53 = .ok (.ireturn, 1) := by decide +kernel
theorem d_Dg_mixOf_54 : decode cd_Dg_mixOf 54 = .ok (.iload_n 2, 1) := by decide +kernel
theorem d_Dg_mixOf_55 : decode cd_Dg_mixOf 55 = .ok (.iload_n 1, 1) := by decide +kernel
theorem d_Dg_mixOf_56 : decode cd_Dg_mixOf 56 = .ok (.iload_n 3, 1) := by decide +kernel
theorem d_Dg_mixOf_57 : decode cd_Dg_mixOf 57 = .ok (.iconst (-1), 1) := by decide +kernel
theorem d_Dg_mixOf_58 : decode cd_Dg_mixOf 58 = .ok (.ixor, 1) := by decide +kernel
theorem d_Dg_mixOf_59 : decode cd_Dg_mixOf 59 = .ok (.ior, 1) := by decide +kernel
theorem d_Dg_mixOf_60 : decode cd_Dg_mixOf 60 = .ok (.ixor, 1) := by decide +kernel
theorem d_Dg_mixOf_61 : decode cd_Dg_mixOf 61 = .ok (.ireturn, 1) := by decide +kernel
theorem d_Dg_wordOf_0 : decode cd_Dg_wordOf 0 = .ok (.iload_n 0, 1) := by decide +kernel
theorem d_Dg_wordOf_1 : decode cd_Dg_wordOf 1 = .ok (.bipush 16, 2) := by decide +kernel
theorem d_Dg_wordOf_3 : decode cd_Dg_wordOf 3 = .ok (.idiv, 1) := by decide +kernel
theorem d_Dg_wordOf_4 : decode cd_Dg_wordOf 4 = .ok (.tableswitch 48 0 2 #[28, 30, 39], 28) := by decide +kernel
theorem d_Dg_wordOf_32 : decode cd_Dg_wordOf 32 = .ok (.iload_n 0, 1) := by decide +kernel
theorem d_Dg_wordOf_33 : decode cd_Dg_wordOf 33 = .ok (.ireturn, 1) := by decide +kernel
theorem d_Dg_wordOf_34 : decode cd_Dg_wordOf 34 = .ok (.iconst 5, 1) := by decide +kernel
theorem d_Dg_wordOf_35 : decode cd_Dg_wordOf 35 = .ok (.iload_n 0, 1) := by decide +kernel
theorem d_Dg_wordOf_36 : decode cd_Dg_wordOf 36 = .ok (.imul, 1) := by decide +kernel
theorem d_Dg_wordOf_37 : decode cd_Dg_wordOf 37 = .ok (.iconst 1, 1) := by decide +kernel
theorem d_Dg_wordOf_38 : decode cd_Dg_wordOf 38 = .ok (.iadd, 1) := by decide +kernel
theorem d_Dg_wordOf_39 : decode cd_Dg_wordOf 39 = .ok (.bipush 16, 2) := by decide +kernel
theorem d_Dg_wordOf_41 : decode cd_Dg_wordOf 41 = .ok (.irem, 1) := by decide +kernel
theorem d_Dg_wordOf_42 : decode cd_Dg_wordOf 42 = .ok (.ireturn, 1) := by decide +kernel
theorem d_Dg_wordOf_43 : decode cd_Dg_wordOf 43 = .ok (.iconst 3, 1) := by decide +kernel
theorem d_Dg_wordOf_44 : decode cd_Dg_wordOf 44 = .ok (.iload_n 0, 1) := by decide +kernel
theorem d_Dg_wordOf_45 : decode cd_Dg_wordOf 45 = .ok (.imul, 1) := by decide +kernel
theorem d_Dg_wordOf_46 : decode cd_Dg_wordOf 46 = .ok (.iconst 5, 1) := by decide +kernel
theorem d_Dg_wordOf_47 : decode cd_Dg_wordOf 47 = .ok (.iadd, 1) := by decide +kernel
theorem d_Dg_wordOf_48 : decode cd_Dg_wordOf 48 = .ok (.bipush 16, 2) := by decide +kernel
theorem d_Dg_wordOf_50 : decode cd_Dg_wordOf 50 = .ok (.irem, 1) := by decide +kernel
theorem d_Dg_wordOf_51 : decode cd_Dg_wordOf 51 = .ok (.ireturn, 1) := by decide +kernel
theorem d_Dg_wordOf_52 : decode cd_Dg_wordOf 52 = .ok (.bipush 7, 2) := by decide +kernel
theorem d_Dg_wordOf_54 : decode cd_Dg_wordOf 54 = .ok (.iload_n 0, 1) := by decide +kernel
theorem d_Dg_wordOf_55 : decode cd_Dg_wordOf 55 = .ok (.imul, 1) := by decide +kernel
theorem d_Dg_wordOf_56 : decode cd_Dg_wordOf 56 = .ok (.bipush 16, 2) := by decide +kernel
theorem d_Dg_wordOf_58 : decode cd_Dg_wordOf 58 = .ok (.irem, 1) := by decide +kernel
theorem d_Dg_wordOf_59 : decode cd_Dg_wordOf 59 = .ok (.ireturn, 1) := by decide +kernel
theorem d_Dg_lowestFirst_0 : decode cd_Dg_lowestFirst 0 = .ok (.lconst 0, 1) := by decide +kernel
theorem d_Dg_lowestFirst_1 : decode cd_Dg_lowestFirst 1 = .ok (.lstore_n 1, 1) := by decide +kernel
theorem d_Dg_lowestFirst_2 : decode cd_Dg_lowestFirst 2 = .ok (.iconst 0, 1) := by decide +kernel
theorem d_Dg_lowestFirst_3 : decode cd_Dg_lowestFirst 3 = .ok (.istore_n 3, 1) := by decide +kernel
theorem d_Dg_lowestFirst_4 : decode cd_Dg_lowestFirst 4 = .ok (.iload_n 3, 1) := by decide +kernel
theorem d_Dg_lowestFirst_5 : decode cd_Dg_lowestFirst 5 = .ok (.iconst 4, 1) := by decide +kernel
theorem d_Dg_lowestFirst_6 : decode cd_Dg_lowestFirst 6 = .ok (.if_icmp .ge 26, 3) := by decide +kernel
theorem d_Dg_lowestFirst_9 : decode cd_Dg_lowestFirst 9 = .ok (.lload_n 1, 1) := by decide +kernel
theorem d_Dg_lowestFirst_10 : decode cd_Dg_lowestFirst 10 = .ok (.bipush 8, 2) := by decide +kernel
theorem d_Dg_lowestFirst_12 : decode cd_Dg_lowestFirst 12 = .ok (.lshl, 1) := by decide +kernel
theorem d_Dg_lowestFirst_13 : decode cd_Dg_lowestFirst 13 = .ok (.iload_n 0, 1) := by decide +kernel
theorem d_Dg_lowestFirst_14 : decode cd_Dg_lowestFirst 14 = .ok (.bipush 8, 2) := by decide +kernel
theorem d_Dg_lowestFirst_16 : decode cd_Dg_lowestFirst 16 = .ok (.iload_n 3, 1) := by decide +kernel
theorem d_Dg_lowestFirst_17 : decode cd_Dg_lowestFirst 17 = .ok (.imul, 1) := by decide +kernel
theorem d_Dg_lowestFirst_18 : decode cd_Dg_lowestFirst 18 = .ok (.iushr, 1) := by decide +kernel
theorem d_Dg_lowestFirst_19 : decode cd_Dg_lowestFirst 19 = .ok (.sipush 255, 3) := by decide +kernel
theorem d_Dg_lowestFirst_22 : decode cd_Dg_lowestFirst 22 = .ok (.iand, 1) := by decide +kernel
theorem d_Dg_lowestFirst_23 : decode cd_Dg_lowestFirst 23 = .ok (.i2l, 1) := by decide +kernel
theorem d_Dg_lowestFirst_24 : decode cd_Dg_lowestFirst 24 = .ok (.lor, 1) := by decide +kernel
theorem d_Dg_lowestFirst_25 : decode cd_Dg_lowestFirst 25 = .ok (.lstore_n 1, 1) := by decide +kernel
theorem d_Dg_lowestFirst_26 : decode cd_Dg_lowestFirst 26 = .ok (.iinc 3 1, 3) := by decide +kernel
theorem d_Dg_lowestFirst_29 : decode cd_Dg_lowestFirst 29 = .ok (.goto (-25), 3) := by decide +kernel
theorem d_Dg_lowestFirst_32 : decode cd_Dg_lowestFirst 32 = .ok (.lload_n 1, 1) := by decide +kernel
theorem d_Dg_lowestFirst_33 : decode cd_Dg_lowestFirst 33 = .ok (.lreturn, 1) := by decide +kernel
