theorem d_Wt_init_0 : decode cd_Wt_init 0 = .ok (.aload_n 0, 1) := by decide +kernel
theorem d_Wt_init_1 : decode cd_Wt_init 1 = .ok (.invokespecial 3, 3) := by decide +kernel
theorem d_Wt_init_4 : decode cd_Wt_init 4 = .ok (.aload_n 0, 1) := by decide +kernel
theorem d_Wt_init_5 : decode cd_Wt_init 5 = .ok (.new 9, 3) := by decide +kernel
theorem d_Wt_init_8 : decode cd_Wt_init 8 = .ok (.dup, 1) := by decide +kernel
theorem d_Wt_init_9 : decode cd_Wt_init 9 = .ok (.sipush 1885, 3) := by decide +kernel
theorem d_Wt_init_12 : decode cd_Wt_init 12 = .ok (.invokespecial 13, 3) := by decide +kernel
theorem d_Wt_init_15 : decode cd_Wt_init 15 = .ok (.putfield 16, 3) := by decide +kernel
theorem d_Wt_init_18 : decode cd_Wt_init 18 = .ok (.aload_n 0, 1) := by decide +kernel
theorem d_Wt_init_19 : decode cd_Wt_init 19 = .ok (.new 9, 3) := by decide +kernel
theorem d_Wt_init_22 : decode cd_Wt_init 22 = .ok (.dup, 1) := by decide +kernel
theorem d_Wt_init_23 : decode cd_Wt_init 23 = .ok (.bipush 20, 2) := by decide +kernel
theorem d_Wt_init_25 : decode cd_Wt_init 25 = .ok (.invokespecial 13, 3) := by decide +kernel
theorem d_Wt_init_28 : decode cd_Wt_init 28 = .ok (.putfield 20, 3) := by decide +kernel
theorem d_Wt_init_31 : decode cd_Wt_init 31 = .ok (.aload_n 0, 1) := by decide +kernel
theorem d_Wt_init_32 : decode cd_Wt_init 32 = .ok (.new 9, 3) := by decide +kernel
theorem d_Wt_init_35 : decode cd_Wt_init 35 = .ok (.dup, 1) := by decide +kernel
theorem d_Wt_init_36 : decode cd_Wt_init 36 = .ok (.sipush 256, 3) := by decide +kernel
theorem d_Wt_init_39 : decode cd_Wt_init 39 = .ok (.invokespecial 13, 3) := by decide +kernel
theorem d_Wt_init_42 : decode cd_Wt_init 42 = .ok (.putfield 23, 3) := by decide +kernel
theorem d_Wt_init_45 : decode cd_Wt_init 45 = .ok (.aload_n 0, 1) := by decide +kernel
theorem d_Wt_init_46 : decode cd_Wt_init 46 = .ok (.new 9, 3) := by decide +kernel
theorem d_Wt_init_49 : decode cd_Wt_init 49 = .ok (.dup, 1) := by decide +kernel
theorem d_Wt_init_50 : decode cd_Wt_init 50 = .ok (.sipush 768, 3) := by decide +kernel
theorem d_Wt_init_53 : decode cd_Wt_init 53 = .ok (.invokespecial 13, 3) := by decide +kernel
theorem d_Wt_init_56 : decode cd_Wt_init 56 = .ok (.putfield 26, 3) := by decide +kernel
theorem d_Wt_init_59 : decode cd_Wt_init 59 = .ok (.aload_n 0, 1) := by decide +kernel
theorem d_Wt_init_60 : decode cd_Wt_init 60 = .ok (.new 9, 3) := by decide +kernel
theorem d_Wt_init_63 : decode cd_Wt_init 63 = .ok (.dup, 1) := by decide +kernel
theorem d_Wt_init_64 : decode cd_Wt_init 64 = .ok (.sipush 512, 3) := by decide +kernel
theorem d_Wt_init_67 : decode cd_Wt_init 67 = .ok (.invokespecial 13, 3) := by decide +kernel
theorem d_Wt_init_70 : decode cd_Wt_init 70 = .ok (.putfield 29, 3) := by decide +kernel
theorem d_Wt_init_73 : decode cd_Wt_init 73 = .ok (.aload_n 0, 1) := by decide +kernel
theorem d_Wt_init_74 : decode cd_Wt_init 74 = .ok (.sipush 300, 3) := by decide +kernel
theorem d_Wt_init_77 : decode cd_Wt_init 77 = .ok (.newarray .int, 2) := by decide +kernel
theorem d_Wt_init_79 : decode cd_Wt_init 79 = .ok (.putfield 32, 3) := by decide +kernel
theorem d_Wt_init_82 : decode cd_Wt_init 82 = .ok (.aload_n 0, 1) := by decide +kernel
theorem d_Wt_init_83 : decode cd_Wt_init 83 = .ok (.new 36, 3) := by decide +kernel
theorem d_Wt_init_86 : decode cd_Wt_init 86 = .ok (.dup, 1) := by decide +kernel
theorem d_Wt_init_87 : decode cd_Wt_init 87 = .ok (.invokespecial 38, 3) := by decide +kernel
theorem d_Wt_init_90 : decode cd_Wt_init 90 = .ok (.putfield 39, 3) := by decide +kernel
theorem d_Wt_init_93 : decode cd_Wt_init 93 = .ok (.return_, 1) := by decide +kernel
theorem d_Wt_open_0 : decode cd_Wt_open 0 = .ok (.aload_n 0, 1) := by decide +kernel
theorem d_Wt_open_1 : decode cd_Wt_open 1 = .ok (.iconst 0, 1) := by decide +kernel
theorem d_Wt_open_2 : decode cd_Wt_open 2 = .ok (.putfield 43, 3) := by decide +kernel
theorem d_Wt_open_5 : decode cd_Wt_open 5 = .ok (.aload_n 0, 1) := by decide +kernel
theorem d_Wt_open_6 : decode cd_Wt_open 6 = .ok (.getfield 16, 3) := by decide +kernel
theorem d_Wt_open_9 : decode cd_Wt_open 9 = .ok (.iconst 0, 1) := by decide +kernel
theorem d_Wt_open_10 : decode cd_Wt_open 10 = .ok (.putfield 47, 3) := by decide +kernel
theorem d_Wt_open_13 : decode cd_Wt_open 13 = .ok (.aload_n 0, 1) := by decide +kernel
theorem d_Wt_open_14 : decode cd_Wt_open 14 = .ok (.getfield 16, 3) := by decide +kernel
theorem d_Wt_open_17 : decode cd_Wt_open 17 = .ok (.sipush 214, 3) := by decide +kernel
theorem d_Wt_open_20 : decode cd_Wt_open 20 = .ok (.invokevirtual 50, 3) := by decide +kernel
theorem d_Wt_open_23 : decode cd_Wt_open 23 = .ok (.aload_n 0, 1) := by decide +kernel
theorem d_Wt_open_24 : decode cd_Wt_open 24 = .ok (.getfield 16, 3) := by decide +kernel
theorem d_Wt_open_27 : decode cd_Wt_open 27 = .ok (.sipush 195, 3) := by decide +kernel
theorem d_Wt_open_30 : decode cd_Wt_open 30 = .ok (.invokevirtual 50, 3) := by decide +kernel
theorem d_Wt_open_33 : decode cd_Wt_open 33 = .ok (.aload_n 0, 1) := by decide +kernel
theorem d_Wt_open_34 : decode cd_Wt_open 34 = .ok (.getfield 16, 3) := by decide +kernel
theorem d_Wt_open_37 : decode cd_Wt_open 37 = .ok (.sipush 196, 3) := by decide +kernel
theorem d_Wt_open_40 : decode cd_Wt_open 40 = .ok (.invokevirtual 50, 3) := by decide +kernel
theorem d_Wt_open_43 : decode cd_Wt_open 43 = .ok (.aload_n 0, 1) := by decide +kernel
theorem d_Wt_open_44 : decode cd_Wt_open 44 = .ok (.getfield 16, 3) := by decide +kernel
theorem d_Wt_open_47 : decode cd_Wt_open 47 = .ok (.iconst 0, 1) := by decide +kernel
theorem d_Wt_open_48 : decode cd_Wt_open 48 = .ok (.invokevirtual 50, 3) := by decide +kernel
theorem d_Wt_open_51 : decode cd_Wt_open 51 = .ok (.aload_n 0, 1) := by decide +kernel
theorem d_Wt_open_52 : decode cd_Wt_open 52 = .ok (.getfield 16, 3) := by decide +kernel
theorem d_Wt_open_55 : decode cd_Wt_open 55 = .ok (.iconst 0, 1) := by decide +kernel
theorem d_Wt_open_56 : decode cd_Wt_open 56 = .ok (.invokevirtual 50, 3) := by decide +kernel
theorem d_Wt_open_59 : decode cd_Wt_open 59 = .ok (.return_, 1) := by decide +kernel
theorem d_Wt_writeWindow_0 : decode cd_Wt_writeWindow 0 = .ok (.iload_n 3, 1) := by decide +kernel
theorem d_Wt_writeWindow_1 : decode cd_Wt_writeWindow 1 = .ok (.aload_n 1, 1) := by decide +kernel
theorem d_Wt_writeWindow_2 : decode cd_Wt_writeWindow 2 = .ok (.getfield 53, 3) := by decide +kernel
theorem d_Wt_writeWindow_5 : decode cd_Wt_writeWindow 5 = .ok (.imul, 1) := by decide +kernel
theorem d_Wt_writeWindow_6 : decode cd_Wt_writeWindow 6 = .ok (.istore 5, 2) := by decide +kernel
theorem d_Wt_writeWindow_8 : decode cd_Wt_writeWindow 8 = .ok (.aload_n 1, 1) := by decide +kernel
theorem d_Wt_writeWindow_9 : decode cd_Wt_writeWindow 9 = .ok (.getfield 53, 3) := by decide +kernel
theorem d_Wt_writeWindow_12 : decode cd_Wt_writeWindow 12 = .ok (.aload_n 2, 1) := by decide +kernel
theorem d_Wt_writeWindow_13 : decode cd_Wt_writeWindow 13 = .ok (.getfield 47, 3) := by decide +kernel
theorem d_Wt_writeWindow_16 : decode cd_Wt_writeWindow 16 = .ok (.iload 5, 2) := by decide +kernel
theorem d_Wt_writeWindow_18 : decode cd_Wt_writeWindow 18 = .ok (.isub, 1) := by decide +kernel
theorem d_Wt_writeWindow_19 : decode cd_Wt_writeWindow 19 = .ok (.invokestatic 58, 3) := by decide +kernel
theorem d_Wt_writeWindow_22 : decode cd_Wt_writeWindow 22 = .ok (.istore 6, 2) := by decide +kernel
theorem d_Wt_writeWindow_24 : decode cd_Wt_writeWindow 24 = .ok (.aload_n 0, 1) := by decide +kernel
theorem d_Wt_writeWindow_25 : decode cd_Wt_writeWindow 25 = .ok (.getfield 43, 3) := by decide +kernel
theorem d_Wt_writeWindow_28 : decode cd_Wt_writeWindow 28 = .ok (.istore 7, 2) := by decide +kernel
theorem d_Wt_writeWindow_30 : decode cd_Wt_writeWindow 30 = .ok (.aload_n 0, 1) := by decide +kernel
theorem d_Wt_writeWindow_31 : decode cd_Wt_writeWindow 31 = .ok (.getfield 43, 3) := by decide +kernel
theorem d_Wt_writeWindow_34 : decode cd_Wt_writeWindow 34 = .ok (.aload_n 1, 1) := by decide +kernel
theorem d_Wt_writeWindow_35 : decode cd_Wt_writeWindow 35 = .ok (.getfield 64, 3) := by decide +kernel
theorem d_Wt_writeWindow_38 : decode cd_Wt_writeWindow 38 = .ok (.if_icmp .ge 29, 3) := by decide +kernel
theorem d_Wt_writeWindow_41 : decode cd_Wt_writeWindow 41 = .ok (.aload_n 1, 1) := by decide +kernel
theorem d_Wt_writeWindow_42 : decode cd_Wt_writeWindow 42 = .ok (.getfield 65, 3) := by decide +kernel
theorem d_Wt_writeWindow_45 : decode cd_Wt_writeWindow 45 = .ok (.aload_n 0, 1) := by decide +kernel
theorem d_Wt_writeWindow_46 : decode cd_Wt_writeWindow 46 = .ok (.getfield 43, 3) := by decide +kernel
theorem d_Wt_writeWindow_49 : decode cd_Wt_writeWindow 49 = .ok (.iaload, 1) := by decide +kernel
theorem d_Wt_writeWindow_50 : decode cd_Wt_writeWindow 50 = .ok (.iload_n 3, 1) := by decide +kernel
theorem d_Wt_writeWindow_51 : decode cd_Wt_writeWindow 51 = .ok (.if_icmp .ne 16, 3) := by decide +kernel
theorem d_Wt_writeWindow_54 : decode cd_Wt_writeWindow 54 = .ok (.aload_n 0, 1) := by decide +kernel
theorem d_Wt_writeWindow_55 : decode cd_Wt_writeWindow 55 = .ok (.dup, 1) := by decide +kernel
theorem d_Wt_writeWindow_56 : decode cd_Wt_writeWindow 56 = .ok (.getfield 43, 3) := by decide +kernel
theorem d_Wt_writeWindow_59 : decode cd_Wt_writeWindow 59 = .ok (.iconst 1, 1) := by decide +kernel
theorem d_Wt_writeWindow_60 : decode cd_Wt_writeWindow 60 = .ok (.iadd, 1) := by decide +kernel
theorem d_Wt_writeWindow_61 : decode cd_Wt_writeWindow 61 = .ok (.putfield 43, 3) := by decide +kernel
theorem d_Wt_writeWindow_64 : decode cd_Wt_writeWindow 64 = .ok (.goto (-34), 3) := by decide +kernel
theorem d_Wt_writeWindow_67 : decode cd_Wt_writeWindow 67 = .ok (.aload_n 0, 1) := by decide +kernel
theorem d_Wt_writeWindow_68 : decode cd_Wt_writeWindow 68 = .ok (.aload_n 1, 1) := by decide +kernel
theorem d_Wt_writeWindow_69 : decode cd_Wt_writeWindow 69 = .ok (.aload_n 2, 1) := by decide +kernel
theorem d_Wt_writeWindow_70 : decode cd_Wt_writeWindow 70 = .ok (.iload 7, 2) := by decide +kernel
theorem d_Wt_writeWindow_72 : decode cd_Wt_writeWindow 72 = .ok (.iload 5, 2) := by decide +kernel
theorem d_Wt_writeWindow_74 : decode cd_Wt_writeWindow 74 = .ok (.invokevirtual 68, 3) := by decide +kernel
theorem d_Wt_writeWindow_77 : decode cd_Wt_writeWindow 77 = .ok (.aload_n 0, 1) := by decide +kernel
theorem d_Wt_writeWindow_78 : decode cd_Wt_writeWindow 78 = .ok (.aload_n 1, 1) := by decide +kernel
theorem d_Wt_writeWindow_79 : decode cd_Wt_writeWindow 79 = .ok (.iload 7, 2) := by decide +kernel
theorem d_Wt_writeWindow_81 : decode cd_Wt_writeWindow 81 = .ok (.invokevirtual 72, 3) := by decide +kernel
theorem d_Wt_writeWindow_84 : decode cd_Wt_writeWindow 84 = .ok (.aload_n 0, 1) := by decide +kernel
theorem d_Wt_writeWindow_85 : decode cd_Wt_writeWindow 85 = .ok (.aload_n 1, 1) := by decide +kernel
theorem d_Wt_writeWindow_86 : decode cd_Wt_writeWindow 86 = .ok (.iload 7, 2) := by decide +kernel
theorem d_Wt_writeWindow_88 : decode cd_Wt_writeWindow 88 = .ok (.invokevirtual 76, 3) := by decide +kernel
theorem d_Wt_writeWindow_91 : decode cd_Wt_writeWindow 91 = .ok (.aload_n 0, 1) := by decide +kernel
theorem d_Wt_writeWindow_92 : decode cd_Wt_writeWindow 92 = .ok (.iload 6, 2) := by decide +kernel
theorem d_Wt_writeWindow_94 : decode cd_Wt_writeWindow 94 = .ok (.iload 4, 2) := by decide +kernel
theorem d_Wt_writeWindow_96 : decode cd_Wt_writeWindow 96 = .ok (.aload_n 2, 1) := by decide +kernel
theorem d_Wt_writeWindow_97 : decode cd_Wt_writeWindow 97 = .ok (.getfield 79, 3) := by decide +kernel
theorem d_Wt_writeWindow_100 : decode cd_Wt_writeWindow 100 = .ok (.iload 5, 2) := by decide +kernel
theorem d_Wt_writeWindow_102 : decode cd_Wt_writeWindow 102 = .ok (.iload 6, 2) := by decide +kernel
theorem d_Wt_writeWindow_104 : decode cd_Wt_writeWindow 104 = .ok (.invokestatic 82, 3) := by decide +kernel
theorem d_Wt_writeWindow_107 : decode cd_Wt_writeWindow 107 = .ok (.invokevirtual 86, 3) := by decide +kernel
theorem d_Wt_writeWindow_110 : decode cd_Wt_writeWindow 110 = .ok (.aload_n 0, 1) := by decide +kernel
theorem d_Wt_writeWindow_111 : decode cd_Wt_writeWindow 111 = .ok (.aload_n 1, 1) := by decide +kernel
theorem d_Wt_writeWindow_112 : decode cd_Wt_writeWindow 112 = .ok (.getfield 90, 3) := by decide +kernel
theorem d_Wt_writeWindow_115 : decode cd_Wt_writeWindow 115 = .ok (.iload 4, 2) := by decide +kernel
theorem d_Wt_writeWindow_117 : decode cd_Wt_writeWindow 117 = .ok (.invokevirtual 93, 3) := by decide +kernel
theorem d_Wt_writeWindow_120 : decode cd_Wt_writeWindow 120 = .ok (.aload_n 0, 1) := by decide +kernel
theorem d_Wt_writeWindow_121 : decode cd_Wt_writeWindow 121 = .ok (.getfield 16, 3) := by decide +kernel
theorem d_Wt_writeWindow_124 : decode cd_Wt_writeWindow 124 = .ok (.aload_n 0, 1) := by decide +kernel
theorem d_Wt_writeWindow_125 : decode cd_Wt_writeWindow 125 = .ok (.getfield 20, 3) := by decide +kernel
theorem d_Wt_writeWindow_128 : decode cd_Wt_writeWindow 128 = .ok (.getfield 47, 3) := by decide +kernel
theorem d_Wt_writeWindow_131 : decode cd_Wt_writeWindow 131 = .ok (.aload_n 0, 1) := by decide +kernel
theorem d_Wt_writeWindow_132 : decode cd_Wt_writeWindow 132 = .ok (.getfield 23, 3) := by decide +kernel
theorem d_Wt_writeWindow_135 : decode cd_Wt_writeWindow 135 = .ok (.getfield 47, 3) := by decide +kernel
theorem d_Wt_writeWindow_138 : decode cd_Wt_writeWindow 138 = .ok (.iadd, 1) := by decide +kernel
theorem d_Wt_writeWindow_139 : decode cd_Wt_writeWindow 139 = .ok (.aload_n 0, 1) := by decide +kernel
theorem d_Wt_writeWindow_140 : decode cd_Wt_writeWindow 140 = .ok (.getfield 26, 3) := by decide +kernel
theorem d_Wt_writeWindow_143 : decode cd_Wt_writeWindow 143 = .ok (.getfield 47, 3) := by decide +kernel
theorem d_Wt_writeWindow_146 : decode cd_Wt_writeWindow 146 = .ok (.iadd, 1) := by decide +kernel
theorem d_Wt_writeWindow_147 : decode cd_Wt_writeWindow 147 = .ok (.aload_n 0, 1) := by decide +kernel
theorem d_Wt_writeWindow_148 : decode cd_Wt_writeWindow 148 = .ok (.getfield 29, 3) := by decide +kernel
theorem d_Wt_writeWindow_151 : decode cd_Wt_writeWindow 151 = .ok (.getfield 47, 3) := by decide +kernel
theorem d_Wt_writeWindow_154 : decode cd_Wt_writeWindow 154 = .ok (.iadd, 1) := by decide +kernel
theorem d_Wt_writeWindow_155 : decode cd_Wt_writeWindow 155 = .ok (.invokevirtual 97, 3) := by decide +kernel
theorem d_Wt_writeWindow_158 : decode cd_Wt_writeWindow 158 = .ok (.aload_n 0, 1) := by decide +kernel
theorem d_Wt_writeWindow_159 : decode cd_Wt_writeWindow 159 = .ok (.aload_n 0, 1) := by decide +kernel
theorem d_Wt_writeWindow_160 : decode cd_Wt_writeWindow 160 = .ok (.getfield 20, 3) := by decide +kernel
theorem d_Wt_writeWindow_163 : decode cd_Wt_writeWindow 163 = .ok (.invokevirtual 100, 3) := by decide +kernel
theorem d_Wt_writeWindow_166 : decode cd_Wt_writeWindow 166 = .ok (.aload_n 0, 1) := by decide +kernel
theorem d_Wt_writeWindow_167 : decode cd_Wt_writeWindow 167 = .ok (.aload_n 0, 1) := by decide +kernel
theorem d_Wt_writeWindow_168 : decode cd_Wt_writeWindow 168 = .ok (.getfield 23, 3) := by decide +kernel
theorem d_Wt_writeWindow_171 : decode cd_Wt_writeWindow 171 = .ok (.invokevirtual 100, 3) := by decide +kernel
theorem d_Wt_writeWindow_174 : decode cd_Wt_writeWindow 174 = .ok (.aload_n 0, 1) := by decide +kernel
theorem d_Wt_writeWindow_175 : decode cd_Wt_writeWindow 175 = .ok (.aload_n 0, 1) := by decide +kernel
theorem d_Wt_writeWindow_176 : decode cd_Wt_writeWindow 176 = .ok (.getfield 26, 3) := by decide +kernel
theorem d_Wt_writeWindow_179 : decode cd_Wt_writeWindow 179 = .ok (.invokevirtual 100, 3) := by decide +kernel
theorem d_Wt_writeWindow_182 : decode cd_Wt_writeWindow 182 = .ok (.aload_n 0, 1) := by decide +kernel
theorem d_Wt_writeWindow_183 : decode cd_Wt_writeWindow 183 = .ok (.aload_n 0, 1) := by decide +kernel
theorem d_Wt_writeWindow_184 : decode cd_Wt_writeWindow 184 = .ok (.getfield 29, 3) := by decide +kernel
theorem d_Wt_writeWindow_187 : decode cd_Wt_writeWindow 187 = .ok (.invokevirtual 100, 3) := by decide +kernel
theorem d_Wt_writeWindow_190 : decode cd_Wt_writeWindow 190 = .ok (.return_, 1) := by decide +kernel
theorem d_Wt_pushRow_0 : decode cd_Wt_pushRow 0 = .ok (.aload_n 0, 1) := by decide +kernel
theorem d_Wt_pushRow_1 : decode cd_Wt_pushRow 1 = .ok (.getfield 16, 3) := by decide +kernel
theorem d_Wt_pushRow_4 : decode cd_Wt_pushRow 4 = .ok (.aload_n 1, 1) := by decide +kernel
theorem d_Wt_pushRow_5 : decode cd_Wt_pushRow 5 = .ok (.getfield 79, 3) := by decide +kernel
theorem d_Wt_pushRow_8 : decode cd_Wt_pushRow 8 = .ok (.iconst 0, 1) := by decide +kernel
theorem d_Wt_pushRow_9 : decode cd_Wt_pushRow 9 = .ok (.aload_n 1, 1) := by decide +kernel
theorem d_Wt_pushRow_10 : decode cd_Wt_pushRow 10 = .ok (.getfield 47, 3) := by decide +kernel
theorem d_Wt_pushRow_13 : decode cd_Wt_pushRow 13 = .ok (.invokevirtual 104, 3) := by decide +kernel
theorem d_Wt_pushRow_16 : decode cd_Wt_pushRow 16 = .ok (.return_, 1) := by decide +kernel
theorem d_Wt_writeSource_0 : decode cd_Wt_writeSource 0 = .ok (.aload_n 0, 1) := by decide +kernel
theorem d_Wt_writeSource_1 : decode cd_Wt_writeSource 1 = .ok (.getfield 16, 3) := by decide +kernel
theorem d_Wt_writeSource_4 : decode cd_Wt_writeSource 4 = .ok (.iload_n 1, 1) := by decide +kernel
theorem d_Wt_writeSource_5 : decode cd_Wt_writeSource 5 = .ok (.ifCond .le 7, 3) := by decide +kernel
theorem d_Wt_writeSource_8 : decode cd_Wt_writeSource 8 = .ok (.iconst 1, 1) := by decide +kernel
theorem d_Wt_writeSource_9 : decode cd_Wt_writeSource 9 = .ok (.goto 4, 3) := by decide +kernel
theorem d_Wt_writeSource_12 : decode cd_Wt_writeSource 12 = .ok (.iconst 0, 1) := by decide +kernel
theorem d_Wt_writeSource_13 : decode cd_Wt_writeSource 13 = .ok (.iload_n 2, 1) := by decide +kernel
theorem d_Wt_writeSource_14 : decode cd_Wt_writeSource 14 = .ok (.ifCond .eq 7, 3) := by decide +kernel
theorem d_Wt_writeSource_17 : decode cd_Wt_writeSource 17 = .ok (.iconst 4, 1) := by decide +kernel
theorem d_Wt_writeSource_18 : decode cd_Wt_writeSource 18 = .ok (.goto 4, 3) := by decide +kernel
theorem d_Wt_writeSource_21 : decode cd_Wt_writeSource 21 = .ok (.iconst 0, 1) := by decide +kernel
theorem d_Wt_writeSource_22 : decode cd_Wt_writeSource 22 = .ok (.iadd, 1) := by decide +kernel
theorem d_Wt_writeSource_23 : decode cd_Wt_writeSource 23 = .ok (.invokevirtual 50, 3) := by decide +kernel
theorem d_Wt_writeSource_26 : decode cd_Wt_writeSource 26 = .ok (.iload_n 1, 1) := by decide +kernel
theorem d_Wt_writeSource_27 : decode cd_Wt_writeSource 27 = .ok (.ifCond .le 19, 3) := by decide +kernel
theorem d_Wt_writeSource_30 : decode cd_Wt_writeSource 30 = .ok (.aload_n 0, 1) := by decide +kernel
theorem d_Wt_writeSource_31 : decode cd_Wt_writeSource 31 = .ok (.getfield 16, 3) := by decide +kernel
theorem d_Wt_writeSource_34 : decode cd_Wt_writeSource 34 = .ok (.iload_n 1, 1) := by decide +kernel
theorem d_Wt_writeSource_35 : decode cd_Wt_writeSource 35 = .ok (.invokevirtual 97, 3) := by decide +kernel
theorem d_Wt_writeSource_38 : decode cd_Wt_writeSource 38 = .ok (.aload_n 0, 1) := by decide +kernel
theorem d_Wt_writeSource_39 : decode cd_Wt_writeSource 39 = .ok (.getfield 16, 3) := by decide +kernel
theorem d_Wt_writeSource_42 : decode cd_Wt_writeSource 42 = .ok (.iconst 0, 1) := by decide +kernel
theorem d_Wt_writeSource_43 : decode cd_Wt_writeSource 43 = .ok (.invokevirtual 97, 3) := by decide +kernel
theorem d_Wt_writeSource_46 : decode cd_Wt_writeSource 46 = .ok (.return_, 1) := by decide +kernel
theorem d_Wt_writeHead_0 : decode cd_Wt_writeHead 0 = .ok (.aload_n 0, 1) := by decide +kernel
theorem d_Wt_writeHead_1 : decode cd_Wt_writeHead 1 = .ok (.getfield 20, 3) := by decide +kernel
theorem d_Wt_writeHead_4 : decode cd_Wt_writeHead 4 = .ok (.iconst 0, 1) := by decide +kernel
theorem d_Wt_writeHead_5 : decode cd_Wt_writeHead 5 = .ok (.putfield 47, 3) := by decide +kernel
theorem d_Wt_writeHead_8 : decode cd_Wt_writeHead 8 = .ok (.aload_n 0, 1) := by decide +kernel
theorem d_Wt_writeHead_9 : decode cd_Wt_writeHead 9 = .ok (.getfield 20, 3) := by decide +kernel
theorem d_Wt_writeHead_12 : decode cd_Wt_writeHead 12 = .ok (.iload_n 1, 1) := by decide +kernel
theorem d_Wt_writeHead_13 : decode cd_Wt_writeHead 13 = .ok (.invokevirtual 97, 3) := by decide +kernel
theorem d_Wt_writeHead_16 : decode cd_Wt_writeHead 16 = .ok (.aload_n 0, 1) := by decide +kernel
theorem d_Wt_writeHead_17 : decode cd_Wt_writeHead 17 = .ok (.getfield 20, 3) := by decide +kernel
theorem d_Wt_writeHead_20 : decode cd_Wt_writeHead 20 = .ok (.iconst 0, 1) := by decide +kernel
theorem d_Wt_writeHead_21 : decode cd_Wt_writeHead 21 = .ok (.invokevirtual 50, 3) := by decide +kernel
theorem d_Wt_writeHead_24 : decode cd_Wt_writeHead 24 = .ok (.aload_n 0, 1) := by decide +kernel
theorem d_Wt_writeHead_25 : decode cd_Wt_writeHead 25 = .ok (.getfield 20, 3) := by decide +kernel
theorem d_Wt_writeHead_28 : decode cd_Wt_writeHead 28 = .ok (.aload_n 0, 1) := by decide +kernel
theorem d_Wt_writeHead_29 : decode cd_Wt_writeHead 29 = .ok (.getfield 23, 3) := by decide +kernel
theorem d_Wt_writeHead_32 : decode cd_Wt_writeHead 32 = .ok (.getfield 47, 3) := by decide +kernel
theorem d_Wt_writeHead_35 : decode cd_Wt_writeHead 35 = .ok (.invokevirtual 97, 3) := by decide +kernel
theorem d_Wt_writeHead_38 : decode cd_Wt_writeHead 38 = .ok (.aload_n 0, 1) := by decide +kernel
theorem d_Wt_writeHead_39 : decode cd_Wt_writeHead 39 = .ok (.getfield 20, 3) := by decide +kernel
theorem d_Wt_writeHead_42 : decode cd_Wt_writeHead 42 = .ok (.aload_n 0, 1) := by decide +kernel
theorem d_Wt_writeHead_43 : decode cd_Wt_writeHead 43 = .ok (.getfield 26, 3) := by decide +kernel
theorem d_Wt_writeHead_46 : decode cd_Wt_writeHead 46 = .ok (.getfield 47, 3) := by decide +kernel
theorem d_Wt_writeHead_49 : decode cd_Wt_writeHead 49 = .ok (.invokevirtual 97, 3) := by decide +kernel
theorem d_Wt_writeHead_52 : decode cd_Wt_writeHead 52 = .ok (.aload_n 0, 1) := by decide +kernel
theorem d_Wt_writeHead_53 : decode cd_Wt_writeHead 53 = .ok (.getfield 20, 3) := by decide +kernel
theorem d_Wt_writeHead_56 : decode cd_Wt_writeHead 56 = .ok (.aload_n 0, 1) := by decide +kernel
theorem d_Wt_writeHead_57 : decode cd_Wt_writeHead 57 = .ok (.getfield 29, 3) := by decide +kernel
theorem d_Wt_writeHead_60 : decode cd_Wt_writeHead 60 = .ok (.getfield 47, 3) := by decide +kernel
theorem d_Wt_writeHead_63 : decode cd_Wt_writeHead 63 = .ok (.invokevirtual 97, 3) := by decide +kernel
theorem d_Wt_writeHead_66 : decode cd_Wt_writeHead 66 = .ok (.iload_n 2, 1) := by decide +kernel
theorem d_Wt_writeHead_67 : decode cd_Wt_writeHead 67 = .ok (.ifCond .eq 34, 3) := by decide +kernel
theorem d_Wt_writeHead_70 : decode cd_Wt_writeHead 70 = .ok (.bipush 24, 2) := by decide +kernel
theorem d_Wt_writeHead_72 : decode cd_Wt_writeHead 72 = .ok (.istore 5, 2) := by decide +kernel
theorem d_Wt_writeHead_74 : decode cd_Wt_writeHead 74 = .ok (.iload 5, 2) := by decide +kernel
theorem d_Wt_writeHead_76 : decode cd_Wt_writeHead 76 = .ok (.ifCond .lt 25, 3) := by decide +kernel
theorem d_Wt_writeHead_79 : decode cd_Wt_writeHead 79 = .ok (.aload_n 0, 1) := by decide +kernel
theorem d_Wt_writeHead_80 : decode cd_Wt_writeHead 80 = .ok (.getfield 20, 3) := by decide +kernel
theorem d_Wt_writeHead_83 : decode cd_Wt_writeHead 83 = .ok (.lload_n 3, 1) := by decide +kernel
theorem d_Wt_writeHead_84 : decode cd_Wt_writeHead 84 = .ok (.iload 5, 2) := by decide +kernel
theorem d_Wt_writeHead_86 : decode cd_Wt_writeHead 86 = .ok (.lushr, 1) := by decide +kernel
theorem d_Wt_writeHead_87 : decode cd_Wt_writeHead 87 = .ok (.l2i, 1) := by decide +kernel
theorem d_Wt_writeHead_88 : decode cd_Wt_writeHead 88 = .ok (.sipush 255, 3) := by decide +kernel
theorem d_Wt_writeHead_91 : decode cd_Wt_writeHead 91 = .ok (.iand, 1) := by decide +kernel
theorem d_Wt_writeHead_92 : decode cd_Wt_writeHead 92 = .ok (.invokevirtual 50, 3) := by decide +kernel
theorem d_Wt_writeHead_95 : decode cd_Wt_writeHead 95 = .ok (.iinc 5 (-8), 3) := by decide +kernel
theorem d_Wt_writeHead_98 : decode cd_Wt_writeHead 98 = .ok (.goto (-24), 3) := by decide +kernel
theorem d_Wt_writeHead_101 : decode cd_Wt_writeHead 101 = .ok (.return_, 1) := by decide +kernel
theorem d_Wt_gatherData_0 : decode cd_Wt_gatherData 0 = .ok (.aload_n 0, 1) := by decide +kernel
theorem d_Wt_gatherData_1 : decode cd_Wt_gatherData 1 = .ok (.getfield 23, 3) := by decide +kernel
theorem d_Wt_gatherData_4 : decode cd_Wt_gatherData 4 = .ok (.iconst 0, 1) := by decide +kernel
theorem d_Wt_gatherData_5 : decode cd_Wt_gatherData 5 = .ok (.putfield 47, 3) := by decide +kernel
theorem d_Wt_gatherData_8 : decode cd_Wt_gatherData 8 = .ok (.iload 4, 2) := by decide +kernel
theorem d_Wt_gatherData_10 : decode cd_Wt_gatherData 10 = .ok (.istore 5, 2) := by decide +kernel
theorem d_Wt_gatherData_12 : decode cd_Wt_gatherData 12 = .ok (.iload_n 3, 1) := by decide +kernel
theorem d_Wt_gatherData_13 : decode cd_Wt_gatherData 13 = .ok (.istore 6, 2) := by decide +kernel
theorem d_Wt_gatherData_15 : decode cd_Wt_gatherData 15 = .ok (.iload 6, 2) := by decide +kernel
theorem d_Wt_gatherData_17 : decode cd_Wt_gatherData 17 = .ok (.aload_n 0, 1) := by decide +kernel
theorem d_Wt_gatherData_18 : decode cd_Wt_gatherData 18 = .ok (.getfield 43, 3) := by decide +kernel
theorem d_Wt_gatherData_21 : decode cd_Wt_gatherData 21 = .ok (.if_icmp .ge 80, 3) := by decide +kernel
theorem d_Wt_gatherData_24 : decode cd_Wt_gatherData 24 = .ok (.aload_n 1, 1) := by decide +kernel
theorem d_Wt_gatherData_25 : decode cd_Wt_gatherData 25 = .ok (.getfield 108, 3) := by decide +kernel
theorem d_Wt_gatherData_28 : decode cd_Wt_gatherData 28 = .ok (.iload 6, 2) := by decide +kernel
theorem d_Wt_gatherData_30 : decode cd_Wt_gatherData 30 = .ok (.iaload, 1) := by decide +kernel
theorem d_Wt_gatherData_31 : decode cd_Wt_gatherData 31 = .ok (.iconst 1, 1) := by decide +kernel
theorem d_Wt_gatherData_32 : decode cd_Wt_gatherData 32 = .ok (.if_icmp .ne 26, 3) := by decide +kernel
theorem d_Wt_gatherData_35 : decode cd_Wt_gatherData 35 = .ok (.aload_n 0, 1) := by decide +kernel
theorem d_Wt_gatherData_36 : decode cd_Wt_gatherData 36 = .ok (.getfield 23, 3) := by decide +kernel
theorem d_Wt_gatherData_39 : decode cd_Wt_gatherData 39 = .ok (.aload_n 2, 1) := by decide +kernel
theorem d_Wt_gatherData_40 : decode cd_Wt_gatherData 40 = .ok (.getfield 79, 3) := by decide +kernel
theorem d_Wt_gatherData_43 : decode cd_Wt_gatherData 43 = .ok (.iload 5, 2) := by decide +kernel
theorem d_Wt_gatherData_45 : decode cd_Wt_gatherData 45 = .ok (.aload_n 1, 1) := by decide +kernel
theorem d_Wt_gatherData_46 : decode cd_Wt_gatherData 46 = .ok (.getfield 111, 3) := by decide +kernel
theorem d_Wt_gatherData_49 : decode cd_Wt_gatherData 49 = .ok (.iload 6, 2) := by decide +kernel
theorem d_Wt_gatherData_51 : decode cd_Wt_gatherData 51 = .ok (.iaload, 1) := by decide +kernel
theorem d_Wt_gatherData_52 : decode cd_Wt_gatherData 52 = .ok (.invokevirtual 104, 3) := by decide +kernel
theorem d_Wt_gatherData_55 : decode cd_Wt_gatherData 55 = .ok (.goto 28, 3) := by decide +kernel
theorem d_Wt_gatherData_58 : decode cd_Wt_gatherData 58 = .ok (.aload_n 1, 1) := by decide +kernel
theorem d_Wt_gatherData_59 : decode cd_Wt_gatherData 59 = .ok (.getfield 108, 3) := by decide +kernel
theorem d_Wt_gatherData_62 : decode cd_Wt_gatherData 62 = .ok (.iload 6, 2) := by decide +kernel
theorem d_Wt_gatherData_64 : decode cd_Wt_gatherData 64 = .ok (.iaload, 1) := by decide +kernel
theorem d_Wt_gatherData_65 : decode cd_Wt_gatherData 65 = .ok (.iconst 2, 1) := by decide +kernel
theorem d_Wt_gatherData_66 : decode cd_Wt_gatherData 66 = .ok (.if_icmp .ne 17, 3) := by decide +kernel
theorem d_Wt_gatherData_69 : decode cd_Wt_gatherData 69 = .ok (.aload_n 0, 1) := by decide +kernel
theorem d_Wt_gatherData_70 : decode cd_Wt_gatherData 70 = .ok (.getfield 23, 3) := by decide +kernel
theorem d_Wt_gatherData_73 : decode cd_Wt_gatherData 73 = .ok (.aload_n 2, 1) := by decide +kernel
theorem d_Wt_gatherData_74 : decode cd_Wt_gatherData 74 = .ok (.getfield 79, 3) := by decide +kernel
theorem d_Wt_gatherData_77 : decode cd_Wt_gatherData 77 = .ok (.iload 5, 2) := by decide +kernel
theorem d_Wt_gatherData_79 : decode cd_Wt_gatherData 79 = .ok (.iaload, 1) := by decide +kernel
theorem d_Wt_gatherData_80 : decode cd_Wt_gatherData 80 = .ok (.invokevirtual 50, 3) := by decide +kernel
theorem d_Wt_gatherData_83 : decode cd_Wt_gatherData 83 = .ok (.iload 5, 2) := by decide +kernel
theorem d_Wt_gatherData_85 : decode cd_Wt_gatherData 85 = .ok (.aload_n 1, 1) := by decide +kernel
theorem d_Wt_gatherData_86 : decode cd_Wt_gatherData 86 = .ok (.getfield 111, 3) := by decide +kernel
theorem d_Wt_gatherData_89 : decode cd_Wt_gatherData 89 = .ok (.iload 6, 2) := by decide +kernel
theorem d_Wt_gatherData_91 : decode cd_Wt_gatherData 91 = .ok (.iaload, 1) := by decide +kernel
theorem d_Wt_gatherData_92 : decode cd_Wt_gatherData 92 = .ok (.iadd, 1) := by decide +kernel
theorem d_Wt_gatherData_93 : decode cd_Wt_gatherData 93 = .ok (.istore 5, 2) := by decide +kernel
theorem d_Wt_gatherData_95 : decode cd_Wt_gatherData 95 = .ok (.iinc 6 1, 3) := by decide +kernel
theorem d_Wt_gatherData_98 : decode cd_Wt_gatherData 98 = .ok (.goto (-83), 3) := by decide +kernel
theorem d_Wt_gatherData_101 : decode cd_Wt_gatherData 101 = .ok (.return_, 1) := by decide +kernel
theorem d_Wt_tellAddresses_0 : decode cd_Wt_tellAddresses 0 = .ok (.aload_n 0, 1) := by decide +kernel
theorem d_Wt_tellAddresses_1 : decode cd_Wt_tellAddresses 1 = .ok (.getfield 29, 3) := by decide +kernel
theorem d_Wt_tellAddresses_4 : decode cd_Wt_tellAddresses 4 = .ok (.iconst 0, 1) := by decide +kernel
theorem d_Wt_tellAddresses_5 : decode cd_Wt_tellAddresses 5 = .ok (.putfield 47, 3) := by decide +kernel
theorem d_Wt_tellAddresses_8 : decode cd_Wt_tellAddresses 8 = .ok (.aload_n 0, 1) := by decide +kernel
theorem d_Wt_tellAddresses_9 : decode cd_Wt_tellAddresses 9 = .ok (.getfield 39, 3) := by decide +kernel
theorem d_Wt_tellAddresses_12 : decode cd_Wt_tellAddresses 12 = .ok (.iconst 4, 1) := by decide +kernel
theorem d_Wt_tellAddresses_13 : decode cd_Wt_tellAddresses 13 = .ok (.iconst 3, 1) := by decide +kernel
theorem d_Wt_tellAddresses_14 : decode cd_Wt_tellAddresses 14 = .ok (.invokevirtual 114, 3) := by decide +kernel
theorem d_Wt_tellAddresses_17 : decode cd_Wt_tellAddresses 17 = .ok (.aload_n 1, 1) := by decide +kernel
theorem d_Wt_tellAddresses_18 : decode cd_Wt_tellAddresses 18 = .ok (.getfield 90, 3) := by decide +kernel
theorem d_Wt_tellAddresses_21 : decode cd_Wt_tellAddresses 21 = .ok (.istore_n 3, 1) := by decide +kernel
theorem d_Wt_tellAddresses_22 : decode cd_Wt_tellAddresses 22 = .ok (.iload_n 2, 1) := by decide +kernel
theorem d_Wt_tellAddresses_23 : decode cd_Wt_tellAddresses 23 = .ok (.istore 4, 2) := by decide +kernel
theorem d_Wt_tellAddresses_25 : decode cd_Wt_tellAddresses 25 = .ok (.iload 4, 2) := by decide +kernel
theorem d_Wt_tellAddresses_27 : decode cd_Wt_tellAddresses 27 = .ok (.aload_n 0, 1) := by decide +kernel
theorem d_Wt_tellAddresses_28 : decode cd_Wt_tellAddresses 28 = .ok (.getfield 43, 3) := by decide +kernel
theorem d_Wt_tellAddresses_31 : decode cd_Wt_tellAddresses 31 = .ok (.if_icmp .ge 56, 3) := by decide +kernel
theorem d_Wt_tellAddresses_34 : decode cd_Wt_tellAddresses 34 = .ok (.aload_n 1, 1) := by decide +kernel
theorem d_Wt_tellAddresses_35 : decode cd_Wt_tellAddresses 35 = .ok (.getfield 108, 3) := by decide +kernel
theorem d_Wt_tellAddresses_38 : decode cd_Wt_tellAddresses 38 = .ok (.iload 4, 2) := by decide +kernel
theorem d_Wt_tellAddresses_40 : decode cd_Wt_tellAddresses 40 = .ok (.iaload, 1) := by decide +kernel
theorem d_Wt_tellAddresses_41 : decode cd_Wt_tellAddresses 41 = .ok (.iconst 3, 1) := by decide +kernel
theorem d_Wt_tellAddresses_42 : decode cd_Wt_tellAddresses 42 = .ok (.if_icmp .ne 29, 3) := by decide +kernel
theorem d_Wt_tellAddresses_45 : decode cd_Wt_tellAddresses 45 = .ok (.aload_n 0, 1) := by decide +kernel
theorem d_Wt_tellAddresses_46 : decode cd_Wt_tellAddresses 46 = .ok (.getfield 32, 3) := by decide +kernel
theorem d_Wt_tellAddresses_49 : decode cd_Wt_tellAddresses 49 = .ok (.iload 4, 2) := by decide +kernel
theorem d_Wt_tellAddresses_51 : decode cd_Wt_tellAddresses 51 = .ok (.aload_n 0, 1) := by decide +kernel
theorem d_Wt_tellAddresses_52 : decode cd_Wt_tellAddresses 52 = .ok (.getfield 39, 3) := by decide +kernel
theorem d_Wt_tellAddresses_55 : decode cd_Wt_tellAddresses 55 = .ok (.aload_n 1, 1) := by decide +kernel
theorem d_Wt_tellAddresses_56 : decode cd_Wt_tellAddresses 56 = .ok (.getfield 118, 3) := by decide +kernel
theorem d_Wt_tellAddresses_59 : decode cd_Wt_tellAddresses 59 = .ok (.iload 4, 2) := by decide +kernel
theorem d_Wt_tellAddresses_61 : decode cd_Wt_tellAddresses 61 = .ok (.iaload, 1) := by decide +kernel
theorem d_Wt_tellAddresses_62 : decode cd_Wt_tellAddresses 62 = .ok (.iload_n 3, 1) := by decide +kernel
theorem d_Wt_tellAddresses_63 : decode cd_Wt_tellAddresses 63 = .ok (.aload_n 0, 1) := by decide +kernel
theorem d_Wt_tellAddresses_64 : decode cd_Wt_tellAddresses 64 = .ok (.getfield 29, 3) := by decide +kernel
theorem d_Wt_tellAddresses_67 : decode cd_Wt_tellAddresses 67 = .ok (.invokevirtual 120, 3) := by decide +kernel
theorem d_Wt_tellAddresses_70 : decode cd_Wt_tellAddresses 70 = .ok (.iastore, 1) := by decide +kernel
theorem d_Wt_tellAddresses_71 : decode cd_Wt_tellAddresses 71 = .ok (.iload_n 3, 1) := by decide +kernel
theorem d_Wt_tellAddresses_72 : decode cd_Wt_tellAddresses 72 = .ok (.aload_n 1, 1) := by decide +kernel
theorem d_Wt_tellAddresses_73 : decode cd_Wt_tellAddresses 73 = .ok (.getfield 111, 3) := by decide +kernel
theorem d_Wt_tellAddresses_76 : decode cd_Wt_tellAddresses 76 = .ok (.iload 4, 2) := by decide +kernel
theorem d_Wt_tellAddresses_78 : decode cd_Wt_tellAddresses 78 = .ok (.iaload, 1) := by decide +kernel
theorem d_Wt_tellAddresses_79 : decode cd_Wt_tellAddresses 79 = .ok (.iadd, 1) := by decide +kernel
theorem d_Wt_tellAddresses_80 : decode cd_Wt_tellAddresses 80 = .ok (.istore_n 3, 1) := by decide +kernel
theorem d_Wt_tellAddresses_81 : decode cd_Wt_tellAddresses 81 = .ok (.iinc 4 1, 3) := by decide +kernel
theorem d_Wt_tellAddresses_84 : decode cd_Wt_tellAddresses 84 = .ok (.goto (-59), 3) := by decide +kernel
theorem d_Wt_tellAddresses_87 : decode cd_Wt_tellAddresses 87 = .ok (.return_, 1) := by decide +kernel
theorem d_Wt_writeCodes_0 : decode cd_Wt_writeCodes 0 = .ok (.aload_n 0, 1) := by decide +kernel
theorem d_Wt_writeCodes_1 : decode cd_Wt_writeCodes 1 = .ok (.getfield 26, 3) := by decide +kernel
theorem d_Wt_writeCodes_4 : decode cd_Wt_writeCodes 4 = .ok (.iconst 0, 1) := by decide +kernel
theorem d_Wt_writeCodes_5 : decode cd_Wt_writeCodes 5 = .ok (.putfield 47, 3) := by decide +kernel
theorem d_Wt_writeCodes_8 : decode cd_Wt_writeCodes 8 = .ok (.iload_n 2, 1) := by decide +kernel
theorem d_Wt_writeCodes_9 : decode cd_Wt_writeCodes 9 = .ok (.istore_n 3, 1) := by decide +kernel
theorem d_Wt_writeCodes_10 : decode cd_Wt_writeCodes 10 = .ok (.iload_n 3, 1) := by decide +kernel
theorem d_Wt_writeCodes_11 : decode cd_Wt_writeCodes 11 = .ok (.aload_n 0, 1) := by decide +kernel
theorem d_Wt_writeCodes_12 : decode cd_Wt_writeCodes 12 = .ok (.getfield 43, 3) := by decide +kernel
theorem d_Wt_writeCodes_15 : decode cd_Wt_writeCodes 15 = .ok (.if_icmp .ge 73, 3) := by decide +kernel
theorem d_Wt_writeCodes_18 : decode cd_Wt_writeCodes 18 = .ok (.iload_n 3, 1) := by decide +kernel
theorem d_Wt_writeCodes_19 : decode cd_Wt_writeCodes 19 = .ok (.iconst 1, 1) := by decide +kernel
theorem d_Wt_writeCodes_20 : decode cd_Wt_writeCodes 20 = .ok (.iadd, 1) := by decide +kernel
theorem d_Wt_writeCodes_21 : decode cd_Wt_writeCodes 21 = .ok (.aload_n 0, 1) := by decide +kernel
theorem d_Wt_writeCodes_22 : decode cd_Wt_writeCodes 22 = .ok (.getfield 43, 3) := by decide +kernel
theorem d_Wt_writeCodes_25 : decode cd_Wt_writeCodes 25 = .ok (.if_icmp .ge 12, 3) := by decide +kernel
theorem d_Wt_writeCodes_28 : decode cd_Wt_writeCodes 28 = .ok (.aload_n 0, 1) := by decide +kernel
theorem d_Wt_writeCodes_29 : decode cd_Wt_writeCodes 29 = .ok (.aload_n 1, 1) := by decide +kernel
theorem d_Wt_writeCodes_30 : decode cd_Wt_writeCodes 30 = .ok (.iload_n 3, 1) := by decide +kernel
theorem d_Wt_writeCodes_31 : decode cd_Wt_writeCodes 31 = .ok (.invokevirtual 124, 3) := by decide +kernel
theorem d_Wt_writeCodes_34 : decode cd_Wt_writeCodes 34 = .ok (.goto 4, 3) := by decide +kernel
theorem d_Wt_writeCodes_37 : decode cd_Wt_writeCodes 37 = .ok (.iconst (-1), 1) := by decide +kernel
theorem d_Wt_writeCodes_38 : decode cd_Wt_writeCodes 38 = .ok (.istore 4, 2) := by decide +kernel
theorem d_Wt_writeCodes_40 : decode cd_Wt_writeCodes 40 = .ok (.iload 4, 2) := by decide +kernel
theorem d_Wt_writeCodes_42 : decode cd_Wt_writeCodes 42 = .ok (.ifCond .lt 18, 3) := by decide +kernel
theorem d_Wt_writeCodes_45 : decode cd_Wt_writeCodes 45 = .ok (.aload_n 0, 1) := by decide +kernel
theorem d_Wt_writeCodes_46 : decode cd_Wt_writeCodes 46 = .ok (.getfield 26, 3) := by decide +kernel
theorem d_Wt_writeCodes_49 : decode cd_Wt_writeCodes 49 = .ok (.iload 4, 2) := by decide +kernel
theorem d_Wt_writeCodes_51 : decode cd_Wt_writeCodes 51 = .ok (.invokevirtual 50, 3) := by decide +kernel
theorem d_Wt_writeCodes_54 : decode cd_Wt_writeCodes 54 = .ok (.iinc 3 1, 3) := by decide +kernel
theorem d_Wt_writeCodes_57 : decode cd_Wt_writeCodes 57 = .ok (.goto 25, 3) := by decide +kernel
theorem d_Wt_writeCodes_60 : decode cd_Wt_writeCodes 60 = .ok (.aload_n 0, 1) := by decide +kernel
theorem d_Wt_writeCodes_61 : decode cd_Wt_writeCodes 61 = .ok (.aload_n 1, 1) := by decide +kernel
theorem d_Wt_writeCodes_62 : decode cd_Wt_writeCodes 62 = .ok (.getfield 108, 3) := by decide +kernel
theorem d_Wt_writeCodes_65 : decode cd_Wt_writeCodes 65 = .ok (.iload_n 3, 1) := by decide +kernel
theorem d_Wt_writeCodes_66 : decode cd_Wt_writeCodes 66 = .ok (.iaload, 1) := by decide +kernel
theorem d_Wt_writeCodes_67 : decode cd_Wt_writeCodes 67 = .ok (.aload_n 1, 1) := by decide +kernel
theorem d_Wt_writeCodes_68 : decode cd_Wt_writeCodes 68 = .ok (.getfield 111, 3) := by decide +kernel
theorem d_Wt_writeCodes_71 : decode cd_Wt_writeCodes 71 = .ok (.iload_n 3, 1) := by decide +kernel
theorem d_Wt_writeCodes_72 : decode cd_Wt_writeCodes 72 = .ok (.iaload, 1) := by decide +kernel
theorem d_Wt_writeCodes_73 : decode cd_Wt_writeCodes 73 = .ok (.aload_n 0, 1) := by decide +kernel
theorem d_Wt_writeCodes_74 : decode cd_Wt_writeCodes 74 = .ok (.getfield 32, 3) := by decide +kernel
theorem d_Wt_writeCodes_77 : decode cd_Wt_writeCodes 77 = .ok (.iload_n 3, 1) := by decide +kernel
theorem d_Wt_writeCodes_78 : decode cd_Wt_writeCodes 78 = .ok (.iaload, 1) := by decide +kernel
theorem d_Wt_writeCodes_79 : decode cd_Wt_writeCodes 79 = .ok (.invokevirtual 128, 3) := by decide +kernel
theorem d_Wt_writeCodes_82 : decode cd_Wt_writeCodes 82 = .ok (.iinc 3 1, 3) := by decide +kernel
theorem d_Wt_writeCodes_85 : decode cd_Wt_writeCodes 85 = .ok (.goto (-75), 3) := by decide +kernel
theorem d_Wt_writeCodes_88 : decode cd_Wt_writeCodes 88 = .ok (.return_, 1) := by decide +kernel
theorem d_Wt_codeForTwo_0 : decode cd_Wt_codeForTwo 0 = .ok (.aload_n 1, 1) := by decide +kernel
theorem d_Wt_codeForTwo_1 : decode cd_Wt_codeForTwo 1 = .ok (.getfield 111, 3) := by decide +kernel
theorem d_Wt_codeForTwo_4 : decode cd_Wt_codeForTwo 4 = .ok (.iload_n 2, 1) := by decide +kernel
theorem d_Wt_codeForTwo_5 : decode cd_Wt_codeForTwo 5 = .ok (.iaload, 1) := by decide +kernel
theorem d_Wt_codeForTwo_6 : decode cd_Wt_codeForTwo 6 = .ok (.istore_n 3, 1) := by decide +kernel
theorem d_Wt_codeForTwo_7 : decode cd_Wt_codeForTwo 7 = .ok (.aload_n 1, 1) := by decide +kernel
theorem d_Wt_codeForTwo_8 : decode cd_Wt_codeForTwo 8 = .ok (.getfield 111, 3) := by decide +kernel
theorem d_Wt_codeForTwo_11 : decode cd_Wt_codeForTwo 11 = .ok (.iload_n 2, 1) := by decide +kernel
theorem d_Wt_codeForTwo_12 : decode cd_Wt_codeForTwo 12 = .ok (.iconst 1, 1) := by decide +kernel
theorem d_Wt_codeForTwo_13 : decode cd_Wt_codeForTwo 13 = .ok (.iadd, 1) := by decide +kernel
theorem d_Wt_codeForTwo_14 : decode cd_Wt_codeForTwo 14 = .ok (.iaload, 1) := by decide +kernel
theorem d_Wt_codeForTwo_15 : decode cd_Wt_codeForTwo 15 = .ok (.istore 4, 2) := by decide +kernel
theorem d_Wt_codeForTwo_17 : decode cd_Wt_codeForTwo 17 = .ok (.aload_n 1, 1) := by decide +kernel
theorem d_Wt_codeForTwo_18 : decode cd_Wt_codeForTwo 18 = .ok (.getfield 108, 3) := by decide +kernel
theorem d_Wt_codeForTwo_21 : decode cd_Wt_codeForTwo 21 = .ok (.iload_n 2, 1) := by decide +kernel
theorem d_Wt_codeForTwo_22 : decode cd_Wt_codeForTwo 22 = .ok (.iaload, 1) := by decide +kernel
theorem d_Wt_codeForTwo_23 : decode cd_Wt_codeForTwo 23 = .ok (.iconst 1, 1) := by decide +kernel
theorem d_Wt_codeForTwo_24 : decode cd_Wt_codeForTwo 24 = .ok (.if_icmp .ne 103, 3) := by decide +kernel
theorem d_Wt_codeForTwo_27 : decode cd_Wt_codeForTwo 27 = .ok (.aload_n 1, 1) := by decide +kernel
theorem d_Wt_codeForTwo_28 : decode cd_Wt_codeForTwo 28 = .ok (.getfield 108, 3) := by decide +kernel
theorem d_Wt_codeForTwo_31 : decode cd_Wt_codeForTwo 31 = .ok (.iload_n 2, 1) := by decide +kernel
theorem d_Wt_codeForTwo_32 : decode cd_Wt_codeForTwo 32 = .ok (.iconst 1, 1) := by decide +kernel
theorem d_Wt_codeForTwo_33 : decode cd_Wt_codeForTwo 33 = .ok (.iadd, 1) := by decide +kernel
theorem d_Wt_codeForTwo_34 : decode cd_Wt_codeForTwo 34 = .ok (.iaload, 1) := by decide +kernel
theorem d_Wt_codeForTwo_35 : decode cd_Wt_codeForTwo 35 = .ok (.iconst 3, 1) := by decide +kernel
theorem d_Wt_codeForTwo_36 : decode cd_Wt_codeForTwo 36 = .ok (.if_icmp .ne 91, 3) := by decide +kernel
theorem d_Wt_codeForTwo_39 : decode cd_Wt_codeForTwo 39 = .ok (.iload_n 3, 1) := by decide +kernel
theorem d_Wt_codeForTwo_40 : decode cd_Wt_codeForTwo 40 = .ok (.iconst 4, 1) := by decide +kernel
theorem d_Wt_codeForTwo_41 : decode cd_Wt_codeForTwo 41 = .ok (.if_icmp .gt 86, 3) := by decide +kernel
theorem d_Wt_codeForTwo_44 : decode cd_Wt_codeForTwo 44 = .ok (.aload_n 0, 1) := by decide +kernel
theorem d_Wt_codeForTwo_45 : decode cd_Wt_codeForTwo 45 = .ok (.getfield 32, 3) := by decide +kernel
theorem d_Wt_codeForTwo_48 : decode cd_Wt_codeForTwo 48 = .ok (.iload_n 2, 1) := by decide +kernel
theorem d_Wt_codeForTwo_49 : decode cd_Wt_codeForTwo 49 = .ok (.iconst 1, 1) := by decide +kernel
theorem d_Wt_codeForTwo_50 : decode cd_Wt_codeForTwo 50 = .ok (.iadd, 1) := by decide +kernel
theorem d_Wt_codeForTwo_51 : decode cd_Wt_codeForTwo 51 = .ok (.iaload, 1) := by decide +kernel
theorem d_Wt_codeForTwo_52 : decode cd_Wt_codeForTwo 52 = .ok (.istore 5, 2) := by decide +kernel
theorem d_Wt_codeForTwo_54 : decode cd_Wt_codeForTwo 54 = .ok (.iload 5, 2) := by decide +kernel
theorem d_Wt_codeForTwo_56 : decode cd_Wt_codeForTwo 56 = .ok (.iconst 5, 1) := by decide +kernel
theorem d_Wt_codeForTwo_57 : decode cd_Wt_codeForTwo 57 = .ok (.if_icmp .gt 37, 3) := by decide +kernel
theorem d_Wt_codeForTwo_60 : decode cd_Wt_codeForTwo 60 = .ok (.iload 4, 2) := by decide +kernel
theorem d_Wt_codeForTwo_62 : decode cd_Wt_codeForTwo 62 = .ok (.iconst 4, 1) := by decide +kernel
theorem d_Wt_codeForTwo_63 : decode cd_Wt_codeForTwo 63 = .ok (.if_icmp .lt 31, 3) := by decide +kernel
theorem d_Wt_codeForTwo_66 : decode cd_Wt_codeForTwo 66 = .ok (.iload 4, 2) := by decide +kernel
theorem d_Wt_codeForTwo_68 : decode cd_Wt_codeForTwo 68 = .ok (.bipush 6, 2) := by decide +kernel
theorem d_Wt_codeForTwo_70 : decode cd_Wt_codeForTwo 70 = .ok (.if_icmp .gt 24, 3) := by decide +kernel
theorem d_Wt_codeForTwo_73 : decode cd_Wt_codeForTwo 73 = .ok (.sipush 163, 3) := by decide +kernel
theorem d_Wt_codeForTwo_76 : decode cd_Wt_codeForTwo 76 = .ok (.bipush 12, 2) := by decide +kernel
theorem d_Wt_codeForTwo_78 : decode cd_Wt_codeForTwo 78 = .ok (.iload 5, 2) := by decide +kernel
theorem d_Wt_codeForTwo_80 : decode cd_Wt_codeForTwo 80 = .ok (.imul, 1) := by decide +kernel
theorem d_Wt_codeForTwo_81 : decode cd_Wt_codeForTwo 81 = .ok (.iadd, 1) := by decide +kernel
theorem d_Wt_codeForTwo_82 : decode cd_Wt_codeForTwo 82 = .ok (.iconst 3, 1) := by decide +kernel
theorem d_Wt_codeForTwo_83 : decode cd_Wt_codeForTwo 83 = .ok (.iload_n 3, 1) := by decide +kernel
theorem d_Wt_codeForTwo_84 : decode cd_Wt_codeForTwo 84 = .ok (.iconst 1, 1) := by decide +kernel
theorem d_Wt_codeForTwo_85 : decode cd_Wt_codeForTwo 85 = .ok (.isub, 1) := by decide +kernel
theorem d_Wt_codeForTwo_86 : decode cd_Wt_codeForTwo 86 = .ok (.imul, 1) := by decide +kernel
theorem d_Wt_codeForTwo_87 : decode cd_Wt_codeForTwo 87 = .ok (.iadd, 1) := by decide +kernel
theorem d_Wt_codeForTwo_88 : decode cd_Wt_codeForTwo 88 = .ok (.iload 4, 2) := by decide +kernel
theorem d_Wt_codeForTwo_90 : decode cd_Wt_codeForTwo 90 = .ok (.iadd, 1) := by decide +kernel
theorem d_Wt_codeForTwo_91 : decode cd_Wt_codeForTwo 91 = .ok (.iconst 4, 1) := by decide +kernel
theorem d_Wt_codeForTwo_92 : decode cd_Wt_codeForTwo 92 = .ok (.isub, 1) := by decide +kernel
theorem d_Wt_codeForTwo_93 : decode cd_Wt_codeForTwo 93 = .ok (.ireturn, 1) := by decide +kernel
theorem d_Wt_codeForTwo_94 : decode cd_Wt_codeForTwo 94 = .ok (.iload 5, 2) := by decide +kernel
theorem d_Wt_codeForTwo_96 : decode cd_Wt_codeForTwo 96 = .ok (.bipush 6, 2) := by decide +kernel
theorem d_Wt_codeForTwo_98 : decode cd_Wt_codeForTwo 98 = .ok (.if_icmp .lt 27, 3) := by decide +kernel
theorem d_Wt_codeForTwo_101 : decode cd_Wt_codeForTwo 101 = .ok (.iload 4, 2) := by decide +kernel
theorem d_Wt_codeForTwo_103 : decode cd_Wt_codeForTwo 103 = .ok (.iconst 4, 1) := by decide +kernel
theorem d_Wt_codeForTwo_104 : decode cd_Wt_codeForTwo 104 = .ok (.if_icmp .ne 21, 3) := by decide +kernel
theorem d_Wt_codeForTwo_107 : decode cd_Wt_codeForTwo 107 = .ok (.sipush 235, 3) := by decide +kernel
theorem d_Wt_codeForTwo_110 : decode cd_Wt_codeForTwo 110 = .ok (.iconst 4, 1) := by decide +kernel
theorem d_Wt_codeForTwo_111 : decode cd_Wt_codeForTwo 111 = .ok (.iload 5, 2) := by decide +kernel
theorem d_Wt_codeForTwo_113 : decode cd_Wt_codeForTwo 113 = .ok (.bipush 6, 2) := by decide +kernel
theorem d_Wt_codeForTwo_115 : decode cd_Wt_codeForTwo 115 = .ok (.isub, 1) := by decide +kernel
theorem d_Wt_codeForTwo_116 : decode cd_Wt_codeForTwo 116 = .ok (.imul, 1) := by decide +kernel
theorem d_Wt_codeForTwo_117 : decode cd_Wt_codeForTwo 117 = .ok (.iadd, 1) := by decide +kernel
theorem d_Wt_codeForTwo_118 : decode cd_Wt_codeForTwo 118 = .ok (.iload_n 3, 1) := by decide +kernel
theorem d_Wt_codeForTwo_119 : decode cd_Wt_codeForTwo 119 = .ok (.iadd, 1) := by decide +kernel
theorem d_Wt_codeForTwo_120 : decode cd_Wt_codeForTwo 120 = .ok (.iconst 1, 1) := by decide +kernel
theorem d_Wt_codeForTwo_121 : decode cd_Wt_codeForTwo 121 = .ok (.isub, 1) := by decide +kernel
theorem d_Wt_codeForTwo_122 : decode cd_Wt_codeForTwo 122 = .ok (.goto 4, 3) := by decide +kernel
theorem d_Wt_codeForTwo_125 : decode cd_Wt_codeForTwo 125 = .ok (.iconst (-1), 1) := by decide +kernel
theorem d_Wt_codeForTwo_126 : decode cd_Wt_codeForTwo 126 = .ok (.ireturn, 1) := by decide +kernel
theorem d_Wt_codeForTwo_127 : decode cd_Wt_codeForTwo 127 = .ok (.aload_n 1, 1) := by decide +kernel
theorem d_Wt_codeForTwo_128 : decode cd_Wt_codeForTwo 128 = .ok (.getfield 108, 3) := by decide +kernel
theorem d_Wt_codeForTwo_131 : decode cd_Wt_codeForTwo 131 = .ok (.iload_n 2, 1) := by decide +kernel
theorem d_Wt_codeForTwo_132 : decode cd_Wt_codeForTwo 132 = .ok (.iaload, 1) := by decide +kernel
theorem d_Wt_codeForTwo_133 : decode cd_Wt_codeForTwo 133 = .ok (.iconst 3, 1) := by decide +kernel
theorem d_Wt_codeForTwo_134 : decode cd_Wt_codeForTwo 134 = .ok (.if_icmp .ne 30, 3) := by decide +kernel
theorem d_Wt_codeForTwo_137 : decode cd_Wt_codeForTwo 137 = .ok (.iload_n 3, 1) := by decide +kernel
theorem d_Wt_codeForTwo_138 : decode cd_Wt_codeForTwo 138 = .ok (.iconst 4, 1) := by decide +kernel
theorem d_Wt_codeForTwo_139 : decode cd_Wt_codeForTwo 139 = .ok (.if_icmp .ne 25, 3) := by decide +kernel
theorem d_Wt_codeForTwo_142 : decode cd_Wt_codeForTwo 142 = .ok (.aload_n 1, 1) := by decide +kernel
theorem d_Wt_codeForTwo_143 : decode cd_Wt_codeForTwo 143 = .ok (.getfield 108, 3) := by decide +kernel
theorem d_Wt_codeForTwo_146 : decode cd_Wt_codeForTwo 146 = .ok (.iload_n 2, 1) := by decide +kernel
theorem d_Wt_codeForTwo_147 : decode cd_Wt_codeForTwo 147 = .ok (.iconst 1, 1) := by decide +kernel
theorem d_Wt_codeForTwo_148 : decode cd_Wt_codeForTwo 148 = .ok (.iadd, 1) := by decide +kernel
theorem d_Wt_codeForTwo_149 : decode cd_Wt_codeForTwo 149 = .ok (.iaload, 1) := by decide +kernel
theorem d_Wt_codeForTwo_150 : decode cd_Wt_codeForTwo 150 = .ok (.iconst 1, 1) := by decide +kernel
theorem d_Wt_codeForTwo_151 : decode cd_Wt_codeForTwo 151 = .ok (.if_icmp .ne 13, 3) := by decide +kernel
theorem d_Wt_codeForTwo_154 : decode cd_Wt_codeForTwo 154 = .ok (.iload 4, 2) := by decide +kernel
theorem d_Wt_codeForTwo_156 : decode cd_Wt_codeForTwo 156 = .ok (.iconst 1, 1) := by decide +kernel
theorem d_Wt_codeForTwo_157 : decode cd_Wt_codeForTwo 157 = .ok (.if_icmp .ne 7, 3) := by decide +kernel
theorem d_Wt_codeForTwo_160 : decode cd_Wt_codeForTwo 160 = .ok (.iconst 1, 1) := by decide +kernel
theorem d_Wt_codeForTwo_161 : decode cd_Wt_codeForTwo 161 = .ok (.goto 4, 3) := by decide +kernel
theorem d_Wt_codeForTwo_164 : decode cd_Wt_codeForTwo 164 = .ok (.iconst 0, 1) := by decide +kernel
theorem d_Wt_codeForTwo_165 : decode cd_Wt_codeForTwo 165 = .ok (.istore 5, 2) := by decide +kernel
theorem d_Wt_codeForTwo_167 : decode cd_Wt_codeForTwo 167 = .ok (.iload 5, 2) := by decide +kernel
theorem d_Wt_codeForTwo_169 : decode cd_Wt_codeForTwo 169 = .ok (.ifCond .eq 16, 3) := by decide +kernel
theorem d_Wt_codeForTwo_172 : decode cd_Wt_codeForTwo 172 = .ok (.sipush 247, 3) := by decide +kernel
theorem d_Wt_codeForTwo_175 : decode cd_Wt_codeForTwo 175 = .ok (.aload_n 0, 1) := by decide +kernel
theorem d_Wt_codeForTwo_176 : decode cd_Wt_codeForTwo 176 = .ok (.getfield 32, 3) := by decide +kernel
theorem d_Wt_codeForTwo_179 : decode cd_Wt_codeForTwo 179 = .ok (.iload_n 2, 1) := by decide +kernel
theorem d_Wt_codeForTwo_180 : decode cd_Wt_codeForTwo 180 = .ok (.iaload, 1) := by decide +kernel
theorem d_Wt_codeForTwo_181 : decode cd_Wt_codeForTwo 181 = .ok (.iadd, 1) := by decide +kernel
theorem d_Wt_codeForTwo_182 : decode cd_Wt_codeForTwo 182 = .ok (.goto 4, 3) := by decide +kernel
theorem d_Wt_codeForTwo_185 : decode cd_Wt_codeForTwo 185 = .ok (.iconst (-1), 1) := by decide +kernel
theorem d_Wt_codeForTwo_186 : decode cd_Wt_codeForTwo 186 = .ok (.ireturn, 1) := by decide +kernel
theorem d_Wt_writeCode_0 : decode cd_Wt_writeCode 0 = .ok (.iload_n 1, 1) := by decide +kernel
theorem d_Wt_writeCode_1 : decode cd_Wt_writeCode 1 = .ok (.iconst 1, 1) := by decide +kernel
theorem d_Wt_writeCode_2 : decode cd_Wt_writeCode 2 = .ok (.if_icmp .ne 22, 3) := by decide +kernel
theorem d_Wt_writeCode_5 : decode cd_Wt_writeCode 5 = .ok (.iload_n 2, 1) := by decide +kernel
theorem d_Wt_writeCode_6 : decode cd_Wt_writeCode 6 = .ok (.bipush 17, 2) := by decide +kernel
theorem d_Wt_writeCode_8 : decode cd_Wt_writeCode 8 = .ok (.if_icmp .gt 16, 3) := by decide +kernel
theorem d_Wt_writeCode_11 : decode cd_Wt_writeCode 11 = .ok (.aload_n 0, 1) := by decide +kernel
theorem d_Wt_writeCode_12 : decode cd_Wt_writeCode 12 = .ok (.getfield 26, 3) := by decide +kernel
theorem d_Wt_writeCode_15 : decode cd_Wt_writeCode 15 = .ok (.iconst 1, 1) := by decide +kernel
theorem d_Wt_writeCode_16 : decode cd_Wt_writeCode 16 = .ok (.iload_n 2, 1) := by decide +kernel
theorem d_Wt_writeCode_17 : decode cd_Wt_writeCode 17 = .ok (.iadd, 1) := by decide +kernel
theorem d_Wt_writeCode_18 : decode cd_Wt_writeCode 18 = .ok (.invokevirtual 50, 3) := by decide +kernel
theorem d_Wt_writeCode_21 : decode cd_Wt_writeCode 21 = .ok (.goto 80, 3) := by decide +kernel
theorem d_Wt_writeCode_24 : decode cd_Wt_writeCode 24 = .ok (.iload_n 1, 1) := by decide +kernel
theorem d_Wt_writeCode_25 : decode cd_Wt_writeCode 25 = .ok (.iconst 3, 1) := by decide +kernel
theorem d_Wt_writeCode_26 : decode cd_Wt_writeCode 26 = .ok (.if_icmp .ne 35, 3) := by decide +kernel
theorem d_Wt_writeCode_29 : decode cd_Wt_writeCode 29 = .ok (.iload_n 2, 1) := by decide +kernel
theorem d_Wt_writeCode_30 : decode cd_Wt_writeCode 30 = .ok (.iconst 4, 1) := by decide +kernel
theorem d_Wt_writeCode_31 : decode cd_Wt_writeCode 31 = .ok (.if_icmp .lt 30, 3) := by decide +kernel
theorem d_Wt_writeCode_34 : decode cd_Wt_writeCode 34 = .ok (.iload_n 2, 1) := by decide +kernel
theorem d_Wt_writeCode_35 : decode cd_Wt_writeCode 35 = .ok (.bipush 18, 2) := by decide +kernel
theorem d_Wt_writeCode_37 : decode cd_Wt_writeCode 37 = .ok (.if_icmp .gt 24, 3) := by decide +kernel
theorem d_Wt_writeCode_40 : decode cd_Wt_writeCode 40 = .ok (.aload_n 0, 1) := by decide +kernel
theorem d_Wt_writeCode_41 : decode cd_Wt_writeCode 41 = .ok (.getfield 26, 3) := by decide +kernel
theorem d_Wt_writeCode_44 : decode cd_Wt_writeCode 44 = .ok (.bipush 19, 2) := by decide +kernel
theorem d_Wt_writeCode_46 : decode cd_Wt_writeCode 46 = .ok (.bipush 16, 2) := by decide +kernel
theorem d_Wt_writeCode_48 : decode cd_Wt_writeCode 48 = .ok (.iload_n 3, 1) := by decide +kernel
theorem d_Wt_writeCode_49 : decode cd_Wt_writeCode 49 = .ok (.imul, 1) := by decide +kernel
theorem d_Wt_writeCode_50 : decode cd_Wt_writeCode 50 = .ok (.iadd, 1) := by decide +kernel
theorem d_Wt_writeCode_51 : decode cd_Wt_writeCode 51 = .ok (.iload_n 2, 1) := by decide +kernel
theorem d_Wt_writeCode_52 : decode cd_Wt_writeCode 52 = .ok (.iadd, 1) := by decide +kernel
theorem d_Wt_writeCode_53 : decode cd_Wt_writeCode 53 = .ok (.iconst 3, 1) := by decide +kernel
theorem d_Wt_writeCode_54 : decode cd_Wt_writeCode 54 = .ok (.isub, 1) := by decide +kernel
theorem d_Wt_writeCode_55 : decode cd_Wt_writeCode 55 = .ok (.invokevirtual 50, 3) := by decide +kernel
theorem d_Wt_writeCode_58 : decode cd_Wt_writeCode 58 = .ok (.goto 43, 3) := by decide +kernel
theorem d_Wt_writeCode_61 : decode cd_Wt_writeCode 61 = .ok (.aload_n 0, 1) := by decide +kernel
theorem d_Wt_writeCode_62 : decode cd_Wt_writeCode 62 = .ok (.getfield 26, 3) := by decide +kernel
theorem d_Wt_writeCode_65 : decode cd_Wt_writeCode 65 = .ok (.iload_n 1, 1) := by decide +kernel
theorem d_Wt_writeCode_66 : decode cd_Wt_writeCode 66 = .ok (.iconst 2, 1) := by decide +kernel
theorem d_Wt_writeCode_67 : decode cd_Wt_writeCode 67 = .ok (.if_icmp .ne 7, 3) := by decide +kernel
theorem d_Wt_writeCode_70 : decode cd_Wt_writeCode 70 = .ok (.iconst 0, 1) := by decide +kernel
theorem d_Wt_writeCode_71 : decode cd_Wt_writeCode 71 = .ok (.goto 19, 3) := by decide +kernel
theorem d_Wt_writeCode_74 : decode cd_Wt_writeCode 74 = .ok (.iload_n 1, 1) := by decide +kernel
theorem d_Wt_writeCode_75 : decode cd_Wt_writeCode 75 = .ok (.iconst 1, 1) := by decide +kernel
theorem d_Wt_writeCode_76 : decode cd_Wt_writeCode 76 = .ok (.if_icmp .ne 7, 3) := by decide +kernel
theorem d_Wt_writeCode_79 : decode cd_Wt_writeCode 79 = .ok (.iconst 1, 1) := by decide +kernel
theorem d_Wt_writeCode_80 : decode cd_Wt_writeCode 80 = .ok (.goto 10, 3) := by decide +kernel
theorem d_Wt_writeCode_83 : decode cd_Wt_writeCode 83 = .ok (.bipush 19, 2) := by decide +kernel
theorem d_Wt_writeCode_85 : decode cd_Wt_writeCode 85 = .ok (.bipush 16, 2) := by decide +kernel
theorem d_Wt_writeCode_87 : decode cd_Wt_writeCode 87 = .ok (.iload_n 3, 1) := by decide +kernel
theorem d_Wt_writeCode_88 : decode cd_Wt_writeCode 88 = .ok (.imul, 1) := by decide +kernel
theorem d_Wt_writeCode_89 : decode cd_Wt_writeCode 89 = .ok (.iadd, 1) := by decide +kernel
theorem d_Wt_writeCode_90 : decode cd_Wt_writeCode 90 = .ok (.invokevirtual 50, 3) := by decide +kernel
theorem d_Wt_writeCode_93 : decode cd_Wt_writeCode 93 = .ok (.aload_n 0, 1) := by decide +kernel
theorem d_Wt_writeCode_94 : decode cd_Wt_writeCode 94 = .ok (.getfield 26, 3) := by decide +kernel
theorem d_Wt_writeCode_97 : decode cd_Wt_writeCode 97 = .ok (.iload_n 2, 1) := by decide +kernel
theorem d_Wt_writeCode_98 : decode cd_Wt_writeCode 98 = .ok (.invokevirtual 97, 3) := by decide +kernel
theorem d_Wt_writeCode_101 : decode cd_Wt_writeCode 101 = .ok (.return_, 1) := by decide +kernel
