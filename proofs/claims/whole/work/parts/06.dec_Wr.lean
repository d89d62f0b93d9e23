theorem d_Wr_init_0 : decode cd_Wr_init 0 = .ok (.aload_n 0, 1) := by decide +kernel
theorem d_Wr_init_1 : decode cd_Wr_init 1 = .ok (.invokespecial 3, 3) := by decide +kernel
theorem d_Wr_init_4 : decode cd_Wr_init 4 = .ok (.aload_n 0, 1) := by decide +kernel
theorem d_Wr_init_5 : decode cd_Wr_init 5 = .ok (.new 9, 3) := by decide +kernel
theorem d_Wr_init_8 : decode cd_Wr_init 8 = .ok (.dup, 1) := by decide +kernel
theorem d_Wr_init_9 : decode cd_Wr_init 9 = .ok (.invokespecial 11, 3) := by decide +kernel
theorem d_Wr_init_12 : decode cd_Wr_init 12 = .ok (.putfield 12, 3) := by decide +kernel
theorem d_Wr_init_15 : decode cd_Wr_init 15 = .ok (.aload_n 0, 1) := by decide +kernel
theorem d_Wr_init_16 : decode cd_Wr_init 16 = .ok (.new 9, 3) := by decide +kernel
theorem d_Wr_init_19 : decode cd_Wr_init 19 = .ok (.dup, 1) := by decide +kernel
theorem d_Wr_init_20 : decode cd_Wr_init 20 = .ok (.invokespecial 11, 3) := by decide +kernel
theorem d_Wr_init_23 : decode cd_Wr_init 23 = .ok (.putfield 18, 3) := by decide +kernel
theorem d_Wr_init_26 : decode cd_Wr_init 26 = .ok (.aload_n 0, 1) := by decide +kernel
theorem d_Wr_init_27 : decode cd_Wr_init 27 = .ok (.new 9, 3) := by decide +kernel
theorem d_Wr_init_30 : decode cd_Wr_init 30 = .ok (.dup, 1) := by decide +kernel
theorem d_Wr_init_31 : decode cd_Wr_init 31 = .ok (.invokespecial 11, 3) := by decide +kernel
theorem d_Wr_init_34 : decode cd_Wr_init 34 = .ok (.putfield 21, 3) := by decide +kernel
theorem d_Wr_init_37 : decode cd_Wr_init 37 = .ok (.aload_n 0, 1) := by decide +kernel
theorem d_Wr_init_38 : decode cd_Wr_init 38 = .ok (.new 9, 3) := by decide +kernel
theorem d_Wr_init_41 : decode cd_Wr_init 41 = .ok (.dup, 1) := by decide +kernel
theorem d_Wr_init_42 : decode cd_Wr_init 42 = .ok (.invokespecial 11, 3) := by decide +kernel
theorem d_Wr_init_45 : decode cd_Wr_init 45 = .ok (.putfield 24, 3) := by decide +kernel
theorem d_Wr_init_48 : decode cd_Wr_init 48 = .ok (.aload_n 0, 1) := by decide +kernel
theorem d_Wr_init_49 : decode cd_Wr_init 49 = .ok (.new 27, 3) := by decide +kernel
theorem d_Wr_init_52 : decode cd_Wr_init 52 = .ok (.dup, 1) := by decide +kernel
theorem d_Wr_init_53 : decode cd_Wr_init 53 = .ok (.invokespecial 29, 3) := by decide +kernel
theorem d_Wr_init_56 : decode cd_Wr_init 56 = .ok (.putfield 30, 3) := by decide +kernel
theorem d_Wr_init_59 : decode cd_Wr_init 59 = .ok (.aload_n 0, 1) := by decide +kernel
theorem d_Wr_init_60 : decode cd_Wr_init 60 = .ok (.new 34, 3) := by decide +kernel
theorem d_Wr_init_63 : decode cd_Wr_init 63 = .ok (.dup, 1) := by decide +kernel
theorem d_Wr_init_64 : decode cd_Wr_init 64 = .ok (.iconst 0, 1) := by decide +kernel
theorem d_Wr_init_65 : decode cd_Wr_init 65 = .ok (.invokespecial 36, 3) := by decide +kernel
theorem d_Wr_init_68 : decode cd_Wr_init 68 = .ok (.putfield 39, 3) := by decide +kernel
theorem d_Wr_init_71 : decode cd_Wr_init 71 = .ok (.aload_n 0, 1) := by decide +kernel
theorem d_Wr_init_72 : decode cd_Wr_init 72 = .ok (.aload_n 0, 1) := by decide +kernel
theorem d_Wr_init_73 : decode cd_Wr_init 73 = .ok (.getfield 39, 3) := by decide +kernel
theorem d_Wr_init_76 : decode cd_Wr_init 76 = .ok (.putfield 43, 3) := by decide +kernel
theorem d_Wr_init_79 : decode cd_Wr_init 79 = .ok (.return_, 1) := by decide +kernel
theorem d_Wr_readHead_0 : decode cd_Wr_readHead 0 = .ok (.aload_n 0, 1) := by decide +kernel
theorem d_Wr_readHead_1 : decode cd_Wr_readHead 1 = .ok (.aload_n 3, 1) := by decide +kernel
theorem d_Wr_readHead_2 : decode cd_Wr_readHead 2 = .ok (.putfield 39, 3) := by decide +kernel
theorem d_Wr_readHead_5 : decode cd_Wr_readHead 5 = .ok (.aload_n 0, 1) := by decide +kernel
theorem d_Wr_readHead_6 : decode cd_Wr_readHead 6 = .ok (.aload_n 3, 1) := by decide +kernel
theorem d_Wr_readHead_7 : decode cd_Wr_readHead 7 = .ok (.getfield 46, 3) := by decide +kernel
theorem d_Wr_readHead_10 : decode cd_Wr_readHead 10 = .ok (.putfield 50, 3) := by decide +kernel
theorem d_Wr_readHead_13 : decode cd_Wr_readHead 13 = .ok (.aload_n 1, 1) := by decide +kernel
theorem d_Wr_readHead_14 : decode cd_Wr_readHead 14 = .ok (.invokevirtual 53, 3) := by decide +kernel
theorem d_Wr_readHead_17 : decode cd_Wr_readHead 17 = .ok (.istore 4, 2) := by decide +kernel
theorem d_Wr_readHead_19 : decode cd_Wr_readHead 19 = .ok (.iload 4, 2) := by decide +kernel
theorem d_Wr_readHead_21 : decode cd_Wr_readHead 21 = .ok (.ifCond .lt 31, 3) := by decide +kernel
theorem d_Wr_readHead_24 : decode cd_Wr_readHead 24 = .ok (.iload 4, 2) := by decide +kernel
theorem d_Wr_readHead_26 : decode cd_Wr_readHead 26 = .ok (.bipush 7, 2) := by decide +kernel
theorem d_Wr_readHead_28 : decode cd_Wr_readHead 28 = .ok (.if_icmp .gt 24, 3) := by decide +kernel
theorem d_Wr_readHead_31 : decode cd_Wr_readHead 31 = .ok (.iload 4, 2) := by decide +kernel
theorem d_Wr_readHead_33 : decode cd_Wr_readHead 33 = .ok (.iconst 3, 1) := by decide +kernel
theorem d_Wr_readHead_34 : decode cd_Wr_readHead 34 = .ok (.iand, 1) := by decide +kernel
theorem d_Wr_readHead_35 : decode cd_Wr_readHead 35 = .ok (.iconst 3, 1) := by decide +kernel
theorem d_Wr_readHead_36 : decode cd_Wr_readHead 36 = .ok (.if_icmp .eq 16, 3) := by decide +kernel
theorem d_Wr_readHead_39 : decode cd_Wr_readHead 39 = .ok (.aload_n 0, 1) := by decide +kernel
theorem d_Wr_readHead_40 : decode cd_Wr_readHead 40 = .ok (.aload_n 1, 1) := by decide +kernel
theorem d_Wr_readHead_41 : decode cd_Wr_readHead 41 = .ok (.iload 4, 2) := by decide +kernel
theorem d_Wr_readHead_43 : decode cd_Wr_readHead 43 = .ok (.iconst 3, 1) := by decide +kernel
theorem d_Wr_readHead_44 : decode cd_Wr_readHead 44 = .ok (.iand, 1) := by decide +kernel
theorem d_Wr_readHead_45 : decode cd_Wr_readHead 45 = .ok (.aload_n 2, 1) := by decide +kernel
theorem d_Wr_readHead_46 : decode cd_Wr_readHead 46 = .ok (.invokevirtual 57, 3) := by decide +kernel
theorem d_Wr_readHead_49 : decode cd_Wr_readHead 49 = .ok (.ifCond .ne 6, 3) := by decide +kernel
theorem d_Wr_readHead_52 : decode cd_Wr_readHead 52 = .ok (.bipush (-2), 2) := by decide +kernel
theorem d_Wr_readHead_54 : decode cd_Wr_readHead 54 = .ok (.ireturn, 1) := by decide +kernel
theorem d_Wr_readHead_55 : decode cd_Wr_readHead 55 = .ok (.aload_n 0, 1) := by decide +kernel
theorem d_Wr_readHead_56 : decode cd_Wr_readHead 56 = .ok (.iload 4, 2) := by decide +kernel
theorem d_Wr_readHead_58 : decode cd_Wr_readHead 58 = .ok (.iconst 4, 1) := by decide +kernel
theorem d_Wr_readHead_59 : decode cd_Wr_readHead 59 = .ok (.iand, 1) := by decide +kernel
theorem d_Wr_readHead_60 : decode cd_Wr_readHead 60 = .ok (.ifCond .eq 7, 3) := by decide +kernel
theorem d_Wr_readHead_63 : decode cd_Wr_readHead 63 = .ok (.iconst 1, 1) := by decide +kernel
theorem d_Wr_readHead_64 : decode cd_Wr_readHead 64 = .ok (.goto 4, 3) := by decide +kernel
theorem d_Wr_readHead_67 : decode cd_Wr_readHead 67 = .ok (.iconst 0, 1) := by decide +kernel
theorem d_Wr_readHead_68 : decode cd_Wr_readHead 68 = .ok (.putfield 61, 3) := by decide +kernel
theorem d_Wr_readHead_71 : decode cd_Wr_readHead 71 = .ok (.aload_n 1, 1) := by decide +kernel
theorem d_Wr_readHead_72 : decode cd_Wr_readHead 72 = .ok (.invokevirtual 65, 3) := by decide +kernel
theorem d_Wr_readHead_75 : decode cd_Wr_readHead 75 = .ok (.istore 5, 2) := by decide +kernel
theorem d_Wr_readHead_77 : decode cd_Wr_readHead 77 = .ok (.iload 5, 2) := by decide +kernel
theorem d_Wr_readHead_79 : decode cd_Wr_readHead 79 = .ok (.ifCond .lt 12, 3) := by decide +kernel
theorem d_Wr_readHead_82 : decode cd_Wr_readHead 82 = .ok (.iload 5, 2) := by decide +kernel
theorem d_Wr_readHead_84 : decode cd_Wr_readHead 84 = .ok (.aload_n 1, 1) := by decide +kernel
theorem d_Wr_readHead_85 : decode cd_Wr_readHead 85 = .ok (.invokevirtual 68, 3) := by decide +kernel
theorem d_Wr_readHead_88 : decode cd_Wr_readHead 88 = .ok (.if_icmp .le 6, 3) := by decide +kernel
theorem d_Wr_readHead_91 : decode cd_Wr_readHead 91 = .ok (.bipush (-2), 2) := by decide +kernel
theorem d_Wr_readHead_93 : decode cd_Wr_readHead 93 = .ok (.ireturn, 1) := by decide +kernel
theorem d_Wr_readHead_94 : decode cd_Wr_readHead 94 = .ok (.aload_n 0, 1) := by decide +kernel
theorem d_Wr_readHead_95 : decode cd_Wr_readHead 95 = .ok (.getfield 12, 3) := by decide +kernel
theorem d_Wr_readHead_98 : decode cd_Wr_readHead 98 = .ok (.aload_n 1, 1) := by decide +kernel
theorem d_Wr_readHead_99 : decode cd_Wr_readHead 99 = .ok (.getfield 71, 3) := by decide +kernel
theorem d_Wr_readHead_102 : decode cd_Wr_readHead 102 = .ok (.aload_n 1, 1) := by decide +kernel
theorem d_Wr_readHead_103 : decode cd_Wr_readHead 103 = .ok (.getfield 75, 3) := by decide +kernel
theorem d_Wr_readHead_106 : decode cd_Wr_readHead 106 = .ok (.iload 5, 2) := by decide +kernel
theorem d_Wr_readHead_108 : decode cd_Wr_readHead 108 = .ok (.invokevirtual 78, 3) := by decide +kernel
theorem d_Wr_readHead_111 : decode cd_Wr_readHead 111 = .ok (.aload_n 1, 1) := by decide +kernel
theorem d_Wr_readHead_112 : decode cd_Wr_readHead 112 = .ok (.dup, 1) := by decide +kernel
theorem d_Wr_readHead_113 : decode cd_Wr_readHead 113 = .ok (.getfield 75, 3) := by decide +kernel
theorem d_Wr_readHead_116 : decode cd_Wr_readHead 116 = .ok (.iload 5, 2) := by decide +kernel
theorem d_Wr_readHead_118 : decode cd_Wr_readHead 118 = .ok (.iadd, 1) := by decide +kernel
theorem d_Wr_readHead_119 : decode cd_Wr_readHead 119 = .ok (.putfield 75, 3) := by decide +kernel
theorem d_Wr_readHead_122 : decode cd_Wr_readHead 122 = .ok (.aload_n 0, 1) := by decide +kernel
theorem d_Wr_readHead_123 : decode cd_Wr_readHead 123 = .ok (.aload_n 0, 1) := by decide +kernel
theorem d_Wr_readHead_124 : decode cd_Wr_readHead 124 = .ok (.getfield 12, 3) := by decide +kernel
theorem d_Wr_readHead_127 : decode cd_Wr_readHead 127 = .ok (.invokevirtual 65, 3) := by decide +kernel
theorem d_Wr_readHead_130 : decode cd_Wr_readHead 130 = .ok (.putfield 82, 3) := by decide +kernel
theorem d_Wr_readHead_133 : decode cd_Wr_readHead 133 = .ok (.aload_n 0, 1) := by decide +kernel
theorem d_Wr_readHead_134 : decode cd_Wr_readHead 134 = .ok (.getfield 82, 3) := by decide +kernel
theorem d_Wr_readHead_137 : decode cd_Wr_readHead 137 = .ok (.ifCond .ge 6, 3) := by decide +kernel
theorem d_Wr_readHead_140 : decode cd_Wr_readHead 140 = .ok (.bipush (-2), 2) := by decide +kernel
theorem d_Wr_readHead_142 : decode cd_Wr_readHead 142 = .ok (.ireturn, 1) := by decide +kernel
theorem d_Wr_readHead_143 : decode cd_Wr_readHead 143 = .ok (.aload_n 0, 1) := by decide +kernel
theorem d_Wr_readHead_144 : decode cd_Wr_readHead 144 = .ok (.getfield 82, 3) := by decide +kernel
theorem d_Wr_readHead_147 : decode cd_Wr_readHead 147 = .ok (.aload_n 3, 1) := by decide +kernel
theorem d_Wr_readHead_148 : decode cd_Wr_readHead 148 = .ok (.invokevirtual 85, 3) := by decide +kernel
theorem d_Wr_readHead_151 : decode cd_Wr_readHead 151 = .ok (.if_icmp .le 6, 3) := by decide +kernel
theorem d_Wr_readHead_154 : decode cd_Wr_readHead 154 = .ok (.bipush (-4), 2) := by decide +kernel
theorem d_Wr_readHead_156 : decode cd_Wr_readHead 156 = .ok (.ireturn, 1) := by decide +kernel
theorem d_Wr_readHead_157 : decode cd_Wr_readHead 157 = .ok (.aload_n 0, 1) := by decide +kernel
theorem d_Wr_readHead_158 : decode cd_Wr_readHead 158 = .ok (.getfield 12, 3) := by decide +kernel
theorem d_Wr_readHead_161 : decode cd_Wr_readHead 161 = .ok (.invokevirtual 53, 3) := by decide +kernel
theorem d_Wr_readHead_164 : decode cd_Wr_readHead 164 = .ok (.istore 6, 2) := by decide +kernel
theorem d_Wr_readHead_166 : decode cd_Wr_readHead 166 = .ok (.iload 6, 2) := by decide +kernel
theorem d_Wr_readHead_168 : decode cd_Wr_readHead 168 = .ok (.ifCond .le 14, 3) := by decide +kernel
theorem d_Wr_readHead_171 : decode cd_Wr_readHead 171 = .ok (.iload 6, 2) := by decide +kernel
theorem d_Wr_readHead_173 : decode cd_Wr_readHead 173 = .ok (.bipush 7, 2) := by decide +kernel
theorem d_Wr_readHead_175 : decode cd_Wr_readHead 175 = .ok (.iand, 1) := by decide +kernel
theorem d_Wr_readHead_176 : decode cd_Wr_readHead 176 = .ok (.ifCond .eq 6, 3) := by decide +kernel
theorem d_Wr_readHead_179 : decode cd_Wr_readHead 179 = .ok (.bipush (-3), 2) := by decide +kernel
theorem d_Wr_readHead_181 : decode cd_Wr_readHead 181 = .ok (.ireturn, 1) := by decide +kernel
theorem d_Wr_readHead_182 : decode cd_Wr_readHead 182 = .ok (.iload 6, 2) := by decide +kernel
theorem d_Wr_readHead_184 : decode cd_Wr_readHead 184 = .ok (.ifCond .ne 14, 3) := by decide +kernel
theorem d_Wr_readHead_187 : decode cd_Wr_readHead 187 = .ok (.aload_n 0, 1) := by decide +kernel
theorem d_Wr_readHead_188 : decode cd_Wr_readHead 188 = .ok (.invokevirtual 86, 3) := by decide +kernel
theorem d_Wr_readHead_191 : decode cd_Wr_readHead 191 = .ok (.ifCond .eq 7, 3) := by decide +kernel
theorem d_Wr_readHead_194 : decode cd_Wr_readHead 194 = .ok (.iconst 0, 1) := by decide +kernel
theorem d_Wr_readHead_195 : decode cd_Wr_readHead 195 = .ok (.goto 5, 3) := by decide +kernel
theorem d_Wr_readHead_198 : decode cd_Wr_readHead 198 = .ok (.bipush (-2), 2) := by decide +kernel
theorem d_Wr_readHead_200 : decode cd_Wr_readHead 200 = .ok (.ireturn, 1) := by decide +kernel
theorem d_Wr_readSource_0 : decode cd_Wr_readSource 0 = .ok (.aload_n 0, 1) := by decide +kernel
theorem d_Wr_readSource_1 : decode cd_Wr_readSource 1 = .ok (.iconst 0, 1) := by decide +kernel
theorem d_Wr_readSource_2 : decode cd_Wr_readSource 2 = .ok (.putfield 90, 3) := by decide +kernel
theorem d_Wr_readSource_5 : decode cd_Wr_readSource 5 = .ok (.aload_n 0, 1) := by decide +kernel
theorem d_Wr_readSource_6 : decode cd_Wr_readSource 6 = .ok (.iconst 0, 1) := by decide +kernel
theorem d_Wr_readSource_7 : decode cd_Wr_readSource 7 = .ok (.putfield 93, 3) := by decide +kernel
theorem d_Wr_readSource_10 : decode cd_Wr_readSource 10 = .ok (.aload_n 0, 1) := by decide +kernel
theorem d_Wr_readSource_11 : decode cd_Wr_readSource 11 = .ok (.iload_n 2, 1) := by decide +kernel
theorem d_Wr_readSource_12 : decode cd_Wr_readSource 12 = .ok (.iconst 2, 1) := by decide +kernel
theorem d_Wr_readSource_13 : decode cd_Wr_readSource 13 = .ok (.if_icmp .ne 10, 3) := by decide +kernel
theorem d_Wr_readSource_16 : decode cd_Wr_readSource 16 = .ok (.aload_n 0, 1) := by decide +kernel
theorem d_Wr_readSource_17 : decode cd_Wr_readSource 17 = .ok (.getfield 39, 3) := by decide +kernel
theorem d_Wr_readSource_20 : decode cd_Wr_readSource 20 = .ok (.goto 4, 3) := by decide +kernel
theorem d_Wr_readSource_23 : decode cd_Wr_readSource 23 = .ok (.aload_n 3, 1) := by decide +kernel
theorem d_Wr_readSource_24 : decode cd_Wr_readSource 24 = .ok (.putfield 43, 3) := by decide +kernel
theorem d_Wr_readSource_27 : decode cd_Wr_readSource 27 = .ok (.iload_n 2, 1) := by decide +kernel
theorem d_Wr_readSource_28 : decode cd_Wr_readSource 28 = .ok (.ifCond .ne 5, 3) := by decide +kernel
theorem d_Wr_readSource_31 : decode cd_Wr_readSource 31 = .ok (.iconst 1, 1) := by decide +kernel
theorem d_Wr_readSource_32 : decode cd_Wr_readSource 32 = .ok (.ireturn, 1) := by decide +kernel
theorem d_Wr_readSource_33 : decode cd_Wr_readSource 33 = .ok (.aload_n 0, 1) := by decide +kernel
theorem d_Wr_readSource_34 : decode cd_Wr_readSource 34 = .ok (.aload_n 1, 1) := by decide +kernel
theorem d_Wr_readSource_35 : decode cd_Wr_readSource 35 = .ok (.invokevirtual 65, 3) := by decide +kernel
theorem d_Wr_readSource_38 : decode cd_Wr_readSource 38 = .ok (.putfield 93, 3) := by decide +kernel
theorem d_Wr_readSource_41 : decode cd_Wr_readSource 41 = .ok (.aload_n 0, 1) := by decide +kernel
theorem d_Wr_readSource_42 : decode cd_Wr_readSource 42 = .ok (.getfield 93, 3) := by decide +kernel
theorem d_Wr_readSource_45 : decode cd_Wr_readSource 45 = .ok (.ifCond .ge 5, 3) := by decide +kernel
theorem d_Wr_readSource_48 : decode cd_Wr_readSource 48 = .ok (.iconst 0, 1) := by decide +kernel
theorem d_Wr_readSource_49 : decode cd_Wr_readSource 49 = .ok (.ireturn, 1) := by decide +kernel
theorem d_Wr_readSource_50 : decode cd_Wr_readSource 50 = .ok (.aload_n 0, 1) := by decide +kernel
theorem d_Wr_readSource_51 : decode cd_Wr_readSource 51 = .ok (.aload_n 1, 1) := by decide +kernel
theorem d_Wr_readSource_52 : decode cd_Wr_readSource 52 = .ok (.invokevirtual 65, 3) := by decide +kernel
theorem d_Wr_readSource_55 : decode cd_Wr_readSource 55 = .ok (.putfield 90, 3) := by decide +kernel
theorem d_Wr_readSource_58 : decode cd_Wr_readSource 58 = .ok (.aload_n 0, 1) := by decide +kernel
theorem d_Wr_readSource_59 : decode cd_Wr_readSource 59 = .ok (.getfield 90, 3) := by decide +kernel
theorem d_Wr_readSource_62 : decode cd_Wr_readSource 62 = .ok (.ifCond .lt 26, 3) := by decide +kernel
theorem d_Wr_readSource_65 : decode cd_Wr_readSource 65 = .ok (.aload_n 0, 1) := by decide +kernel
theorem d_Wr_readSource_66 : decode cd_Wr_readSource 66 = .ok (.getfield 90, 3) := by decide +kernel
theorem d_Wr_readSource_69 : decode cd_Wr_readSource 69 = .ok (.aload_n 0, 1) := by decide +kernel
theorem d_Wr_readSource_70 : decode cd_Wr_readSource 70 = .ok (.getfield 93, 3) := by decide +kernel
theorem d_Wr_readSource_73 : decode cd_Wr_readSource 73 = .ok (.iadd, 1) := by decide +kernel
theorem d_Wr_readSource_74 : decode cd_Wr_readSource 74 = .ok (.aload_n 0, 1) := by decide +kernel
theorem d_Wr_readSource_75 : decode cd_Wr_readSource 75 = .ok (.getfield 43, 3) := by decide +kernel
theorem d_Wr_readSource_78 : decode cd_Wr_readSource 78 = .ok (.getfield 46, 3) := by decide +kernel
theorem d_Wr_readSource_81 : decode cd_Wr_readSource 81 = .ok (.if_icmp .gt 7, 3) := by decide +kernel
theorem d_Wr_readSource_84 : decode cd_Wr_readSource 84 = .ok (.iconst 1, 1) := by decide +kernel
theorem d_Wr_readSource_85 : decode cd_Wr_readSource 85 = .ok (.goto 4, 3) := by decide +kernel
theorem d_Wr_readSource_88 : decode cd_Wr_readSource 88 = .ok (.iconst 0, 1) := by decide +kernel
theorem d_Wr_readSource_89 : decode cd_Wr_readSource 89 = .ok (.ireturn, 1) := by decide +kernel
theorem d_Wr_readParts_0 : decode cd_Wr_readParts 0 = .ok (.aload_n 0, 1) := by decide +kernel
theorem d_Wr_readParts_1 : decode cd_Wr_readParts 1 = .ok (.getfield 12, 3) := by decide +kernel
theorem d_Wr_readParts_4 : decode cd_Wr_readParts 4 = .ok (.invokevirtual 65, 3) := by decide +kernel
theorem d_Wr_readParts_7 : decode cd_Wr_readParts 7 = .ok (.istore_n 1, 1) := by decide +kernel
theorem d_Wr_readParts_8 : decode cd_Wr_readParts 8 = .ok (.aload_n 0, 1) := by decide +kernel
theorem d_Wr_readParts_9 : decode cd_Wr_readParts 9 = .ok (.getfield 12, 3) := by decide +kernel
theorem d_Wr_readParts_12 : decode cd_Wr_readParts 12 = .ok (.invokevirtual 65, 3) := by decide +kernel
theorem d_Wr_readParts_15 : decode cd_Wr_readParts 15 = .ok (.istore_n 2, 1) := by decide +kernel
theorem d_Wr_readParts_16 : decode cd_Wr_readParts 16 = .ok (.aload_n 0, 1) := by decide +kernel
theorem d_Wr_readParts_17 : decode cd_Wr_readParts 17 = .ok (.getfield 12, 3) := by decide +kernel
theorem d_Wr_readParts_20 : decode cd_Wr_readParts 20 = .ok (.invokevirtual 65, 3) := by decide +kernel
theorem d_Wr_readParts_23 : decode cd_Wr_readParts 23 = .ok (.istore_n 3, 1) := by decide +kernel
theorem d_Wr_readParts_24 : decode cd_Wr_readParts 24 = .ok (.iload_n 1, 1) := by decide +kernel
theorem d_Wr_readParts_25 : decode cd_Wr_readParts 25 = .ok (.ifCond .lt 11, 3) := by decide +kernel
theorem d_Wr_readParts_28 : decode cd_Wr_readParts 28 = .ok (.iload_n 2, 1) := by decide +kernel
theorem d_Wr_readParts_29 : decode cd_Wr_readParts 29 = .ok (.ifCond .lt 7, 3) := by decide +kernel
theorem d_Wr_readParts_32 : decode cd_Wr_readParts 32 = .ok (.iload_n 3, 1) := by decide +kernel
theorem d_Wr_readParts_33 : decode cd_Wr_readParts 33 = .ok (.ifCond .ge 5, 3) := by decide +kernel
theorem d_Wr_readParts_36 : decode cd_Wr_readParts 36 = .ok (.iconst 0, 1) := by decide +kernel
theorem d_Wr_readParts_37 : decode cd_Wr_readParts 37 = .ok (.ireturn, 1) := by decide +kernel
theorem d_Wr_readParts_38 : decode cd_Wr_readParts 38 = .ok (.aload_n 0, 1) := by decide +kernel
theorem d_Wr_readParts_39 : decode cd_Wr_readParts 39 = .ok (.getfield 61, 3) := by decide +kernel
theorem d_Wr_readParts_42 : decode cd_Wr_readParts 42 = .ok (.ifCond .eq 7, 3) := by decide +kernel
theorem d_Wr_readParts_45 : decode cd_Wr_readParts 45 = .ok (.iconst 4, 1) := by decide +kernel
theorem d_Wr_readParts_46 : decode cd_Wr_readParts 46 = .ok (.goto 4, 3) := by decide +kernel
theorem d_Wr_readParts_49 : decode cd_Wr_readParts 49 = .ok (.iconst 0, 1) := by decide +kernel
theorem d_Wr_readParts_50 : decode cd_Wr_readParts 50 = .ok (.istore 4, 2) := by decide +kernel
theorem d_Wr_readParts_52 : decode cd_Wr_readParts 52 = .ok (.iload_n 1, 1) := by decide +kernel
theorem d_Wr_readParts_53 : decode cd_Wr_readParts 53 = .ok (.iload_n 2, 1) := by decide +kernel
theorem d_Wr_readParts_54 : decode cd_Wr_readParts 54 = .ok (.iadd, 1) := by decide +kernel
theorem d_Wr_readParts_55 : decode cd_Wr_readParts 55 = .ok (.iload_n 3, 1) := by decide +kernel
theorem d_Wr_readParts_56 : decode cd_Wr_readParts 56 = .ok (.iadd, 1) := by decide +kernel
theorem d_Wr_readParts_57 : decode cd_Wr_readParts 57 = .ok (.iload 4, 2) := by decide +kernel
theorem d_Wr_readParts_59 : decode cd_Wr_readParts 59 = .ok (.iadd, 1) := by decide +kernel
theorem d_Wr_readParts_60 : decode cd_Wr_readParts 60 = .ok (.aload_n 0, 1) := by decide +kernel
theorem d_Wr_readParts_61 : decode cd_Wr_readParts 61 = .ok (.getfield 12, 3) := by decide +kernel
theorem d_Wr_readParts_64 : decode cd_Wr_readParts 64 = .ok (.invokevirtual 68, 3) := by decide +kernel
theorem d_Wr_readParts_67 : decode cd_Wr_readParts 67 = .ok (.if_icmp .eq 5, 3) := by decide +kernel
theorem d_Wr_readParts_70 : decode cd_Wr_readParts 70 = .ok (.iconst 0, 1) := by decide +kernel
theorem d_Wr_readParts_71 : decode cd_Wr_readParts 71 = .ok (.ireturn, 1) := by decide +kernel
theorem d_Wr_readParts_72 : decode cd_Wr_readParts 72 = .ok (.aload_n 0, 1) := by decide +kernel
theorem d_Wr_readParts_73 : decode cd_Wr_readParts 73 = .ok (.lconst 0, 1) := by decide +kernel
theorem d_Wr_readParts_74 : decode cd_Wr_readParts 74 = .ok (.putfield 96, 3) := by decide +kernel
theorem d_Wr_readParts_77 : decode cd_Wr_readParts 77 = .ok (.iconst 0, 1) := by decide +kernel
theorem d_Wr_readParts_78 : decode cd_Wr_readParts 78 = .ok (.istore 5, 2) := by decide +kernel
theorem d_Wr_readParts_80 : decode cd_Wr_readParts 80 = .ok (.iload 5, 2) := by decide +kernel
theorem d_Wr_readParts_82 : decode cd_Wr_readParts 82 = .ok (.iload 4, 2) := by decide +kernel
theorem d_Wr_readParts_84 : decode cd_Wr_readParts 84 = .ok (.if_icmp .ge 30, 3) := by decide +kernel
theorem d_Wr_readParts_87 : decode cd_Wr_readParts 87 = .ok (.aload_n 0, 1) := by decide +kernel
theorem d_Wr_readParts_88 : decode cd_Wr_readParts 88 = .ok (.ldc2_w 100, 3) := by decide +kernel
theorem d_Wr_readParts_91 : decode cd_Wr_readParts 91 = .ok (.aload_n 0, 1) := by decide +kernel
theorem d_Wr_readParts_92 : decode cd_Wr_readParts 92 = .ok (.getfield 96, 3) := by decide +kernel
theorem d_Wr_readParts_95 : decode cd_Wr_readParts 95 = .ok (.lmul, 1) := by decide +kernel
theorem d_Wr_readParts_96 : decode cd_Wr_readParts 96 = .ok (.aload_n 0, 1) := by decide +kernel
theorem d_Wr_readParts_97 : decode cd_Wr_readParts 97 = .ok (.getfield 12, 3) := by decide +kernel
theorem d_Wr_readParts_100 : decode cd_Wr_readParts 100 = .ok (.invokevirtual 53, 3) := by decide +kernel
theorem d_Wr_readParts_103 : decode cd_Wr_readParts 103 = .ok (.i2l, 1) := by decide +kernel
theorem d_Wr_readParts_104 : decode cd_Wr_readParts 104 = .ok (.ladd, 1) := by decide +kernel
theorem d_Wr_readParts_105 : decode cd_Wr_readParts 105 = .ok (.putfield 96, 3) := by decide +kernel
theorem d_Wr_readParts_108 : decode cd_Wr_readParts 108 = .ok (.iinc 5 1, 3) := by decide +kernel
theorem d_Wr_readParts_111 : decode cd_Wr_readParts 111 = .ok (.goto (-31), 3) := by decide +kernel
theorem d_Wr_readParts_114 : decode cd_Wr_readParts 114 = .ok (.aload_n 0, 1) := by decide +kernel
theorem d_Wr_readParts_115 : decode cd_Wr_readParts 115 = .ok (.getfield 18, 3) := by decide +kernel
theorem d_Wr_readParts_118 : decode cd_Wr_readParts 118 = .ok (.aload_n 0, 1) := by decide +kernel
theorem d_Wr_readParts_119 : decode cd_Wr_readParts 119 = .ok (.getfield 12, 3) := by decide +kernel
theorem d_Wr_readParts_122 : decode cd_Wr_readParts 122 = .ok (.getfield 71, 3) := by decide +kernel
theorem d_Wr_readParts_125 : decode cd_Wr_readParts 125 = .ok (.aload_n 0, 1) := by decide +kernel
theorem d_Wr_readParts_126 : decode cd_Wr_readParts 126 = .ok (.getfield 12, 3) := by decide +kernel
theorem d_Wr_readParts_129 : decode cd_Wr_readParts 129 = .ok (.getfield 75, 3) := by decide +kernel
theorem d_Wr_readParts_132 : decode cd_Wr_readParts 132 = .ok (.iload_n 1, 1) := by decide +kernel
theorem d_Wr_readParts_133 : decode cd_Wr_readParts 133 = .ok (.invokevirtual 78, 3) := by decide +kernel
theorem d_Wr_readParts_136 : decode cd_Wr_readParts 136 = .ok (.aload_n 0, 1) := by decide +kernel
theorem d_Wr_readParts_137 : decode cd_Wr_readParts 137 = .ok (.getfield 21, 3) := by decide +kernel
theorem d_Wr_readParts_140 : decode cd_Wr_readParts 140 = .ok (.aload_n 0, 1) := by decide +kernel
theorem d_Wr_readParts_141 : decode cd_Wr_readParts 141 = .ok (.getfield 12, 3) := by decide +kernel
theorem d_Wr_readParts_144 : decode cd_Wr_readParts 144 = .ok (.getfield 71, 3) := by decide +kernel
theorem d_Wr_readParts_147 : decode cd_Wr_readParts 147 = .ok (.aload_n 0, 1) := by decide +kernel
theorem d_Wr_readParts_148 : decode cd_Wr_readParts 148 = .ok (.getfield 18, 3) := by decide +kernel
theorem d_Wr_readParts_151 : decode cd_Wr_readParts 151 = .ok (.getfield 102, 3) := by decide +kernel
theorem d_Wr_readParts_154 : decode cd_Wr_readParts 154 = .ok (.iload_n 2, 1) := by decide +kernel
theorem d_Wr_readParts_155 : decode cd_Wr_readParts 155 = .ok (.invokevirtual 78, 3) := by decide +kernel
theorem d_Wr_readParts_158 : decode cd_Wr_readParts 158 = .ok (.aload_n 0, 1) := by decide +kernel
theorem d_Wr_readParts_159 : decode cd_Wr_readParts 159 = .ok (.getfield 24, 3) := by decide +kernel
theorem d_Wr_readParts_162 : decode cd_Wr_readParts 162 = .ok (.aload_n 0, 1) := by decide +kernel
theorem d_Wr_readParts_163 : decode cd_Wr_readParts 163 = .ok (.getfield 12, 3) := by decide +kernel
theorem d_Wr_readParts_166 : decode cd_Wr_readParts 166 = .ok (.getfield 71, 3) := by decide +kernel
theorem d_Wr_readParts_169 : decode cd_Wr_readParts 169 = .ok (.aload_n 0, 1) := by decide +kernel
theorem d_Wr_readParts_170 : decode cd_Wr_readParts 170 = .ok (.getfield 21, 3) := by decide +kernel
theorem d_Wr_readParts_173 : decode cd_Wr_readParts 173 = .ok (.getfield 102, 3) := by decide +kernel
theorem d_Wr_readParts_176 : decode cd_Wr_readParts 176 = .ok (.iload_n 3, 1) := by decide +kernel
theorem d_Wr_readParts_177 : decode cd_Wr_readParts 177 = .ok (.invokevirtual 78, 3) := by decide +kernel
theorem d_Wr_readParts_180 : decode cd_Wr_readParts 180 = .ok (.iconst 1, 1) := by decide +kernel
theorem d_Wr_readParts_181 : decode cd_Wr_readParts 181 = .ok (.ireturn, 1) := by decide +kernel
theorem d_Wr_make_0 : decode cd_Wr_make 0 = .ok (.aload_n 0, 1) := by decide +kernel
theorem d_Wr_make_1 : decode cd_Wr_make 1 = .ok (.getfield 30, 3) := by decide +kernel
theorem d_Wr_make_4 : decode cd_Wr_make 4 = .ok (.iload_n 2, 1) := by decide +kernel
theorem d_Wr_make_5 : decode cd_Wr_make 5 = .ok (.iload_n 3, 1) := by decide +kernel
theorem d_Wr_make_6 : decode cd_Wr_make 6 = .ok (.invokevirtual 105, 3) := by decide +kernel
theorem d_Wr_make_9 : decode cd_Wr_make 9 = .ok (.iconst 0, 1) := by decide +kernel
theorem d_Wr_make_10 : decode cd_Wr_make 10 = .ok (.istore 4, 2) := by decide +kernel
theorem d_Wr_make_12 : decode cd_Wr_make 12 = .ok (.iload 4, 2) := by decide +kernel
theorem d_Wr_make_14 : decode cd_Wr_make 14 = .ok (.sipush 700, 3) := by decide +kernel
theorem d_Wr_make_17 : decode cd_Wr_make 17 = .ok (.if_icmp .ge 153, 3) := by decide +kernel
theorem d_Wr_make_20 : decode cd_Wr_make 20 = .ok (.aload_n 0, 1) := by decide +kernel
theorem d_Wr_make_21 : decode cd_Wr_make 21 = .ok (.getfield 21, 3) := by decide +kernel
theorem d_Wr_make_24 : decode cd_Wr_make 24 = .ok (.invokevirtual 68, 3) := by decide +kernel
theorem d_Wr_make_27 : decode cd_Wr_make 27 = .ok (.ifCond .le 143, 3) := by decide +kernel
theorem d_Wr_make_30 : decode cd_Wr_make 30 = .ok (.aload_n 0, 1) := by decide +kernel
theorem d_Wr_make_31 : decode cd_Wr_make 31 = .ok (.getfield 21, 3) := by decide +kernel
theorem d_Wr_make_34 : decode cd_Wr_make 34 = .ok (.invokevirtual 53, 3) := by decide +kernel
theorem d_Wr_make_37 : decode cd_Wr_make 37 = .ok (.istore 5, 2) := by decide +kernel
theorem d_Wr_make_39 : decode cd_Wr_make 39 = .ok (.iconst 0, 1) := by decide +kernel
theorem d_Wr_make_40 : decode cd_Wr_make 40 = .ok (.istore 6, 2) := by decide +kernel
theorem d_Wr_make_42 : decode cd_Wr_make 42 = .ok (.iload 6, 2) := by decide +kernel
theorem d_Wr_make_44 : decode cd_Wr_make 44 = .ok (.iconst 2, 1) := by decide +kernel
theorem d_Wr_make_45 : decode cd_Wr_make 45 = .ok (.if_icmp .ge 119, 3) := by decide +kernel
theorem d_Wr_make_48 : decode cd_Wr_make 48 = .ok (.sipush 256, 3) := by decide +kernel
theorem d_Wr_make_51 : decode cd_Wr_make 51 = .ok (.iload 6, 2) := by decide +kernel
theorem d_Wr_make_53 : decode cd_Wr_make 53 = .ok (.imul, 1) := by decide +kernel
theorem d_Wr_make_54 : decode cd_Wr_make 54 = .ok (.iload 5, 2) := by decide +kernel
theorem d_Wr_make_56 : decode cd_Wr_make 56 = .ok (.iadd, 1) := by decide +kernel
theorem d_Wr_make_57 : decode cd_Wr_make 57 = .ok (.istore 7, 2) := by decide +kernel
theorem d_Wr_make_59 : decode cd_Wr_make 59 = .ok (.aload_n 1, 1) := by decide +kernel
theorem d_Wr_make_60 : decode cd_Wr_make 60 = .ok (.getfield 108, 3) := by decide +kernel
theorem d_Wr_make_63 : decode cd_Wr_make 63 = .ok (.iload 7, 2) := by decide +kernel
theorem d_Wr_make_65 : decode cd_Wr_make 65 = .ok (.iaload, 1) := by decide +kernel
theorem d_Wr_make_66 : decode cd_Wr_make 66 = .ok (.istore 8, 2) := by decide +kernel
theorem d_Wr_make_68 : decode cd_Wr_make 68 = .ok (.iload 8, 2) := by decide +kernel
theorem d_Wr_make_70 : decode cd_Wr_make 70 = .ok (.ifCond .ne 7, 3) := by decide +kernel
theorem d_Wr_make_73 : decode cd_Wr_make 73 = .ok (.iconst 0, 1) := by decide +kernel
theorem d_Wr_make_74 : decode cd_Wr_make 74 = .ok (.goto 18, 3) := by decide +kernel
theorem d_Wr_make_77 : decode cd_Wr_make 77 = .ok (.aload_n 0, 1) := by decide +kernel
theorem d_Wr_make_78 : decode cd_Wr_make 78 = .ok (.aload_n 1, 1) := by decide +kernel
theorem d_Wr_make_79 : decode cd_Wr_make 79 = .ok (.getfield 108, 3) := by decide +kernel
theorem d_Wr_make_82 : decode cd_Wr_make 82 = .ok (.sipush 512, 3) := by decide +kernel
theorem d_Wr_make_85 : decode cd_Wr_make 85 = .ok (.iload 7, 2) := by decide +kernel
theorem d_Wr_make_87 : decode cd_Wr_make 87 = .ok (.iadd, 1) := by decide +kernel
theorem d_Wr_make_88 : decode cd_Wr_make 88 = .ok (.iaload, 1) := by decide +kernel
theorem d_Wr_make_89 : decode cd_Wr_make 89 = .ok (.invokevirtual 109, 3) := by decide +kernel
theorem d_Wr_make_92 : decode cd_Wr_make 92 = .ok (.istore 9, 2) := by decide +kernel
theorem d_Wr_make_94 : decode cd_Wr_make 94 = .ok (.iload 9, 2) := by decide +kernel
theorem d_Wr_make_96 : decode cd_Wr_make 96 = .ok (.ifCond .lt 59, 3) := by decide +kernel
theorem d_Wr_make_99 : decode cd_Wr_make 99 = .ok (.iload 8, 2) := by decide +kernel
theorem d_Wr_make_101 : decode cd_Wr_make 101 = .ok (.iconst 1, 1) := by decide +kernel
theorem d_Wr_make_102 : decode cd_Wr_make 102 = .ok (.if_icmp .ne 12, 3) := by decide +kernel
theorem d_Wr_make_105 : decode cd_Wr_make 105 = .ok (.aload_n 0, 1) := by decide +kernel
theorem d_Wr_make_106 : decode cd_Wr_make 106 = .ok (.iload 9, 2) := by decide +kernel
theorem d_Wr_make_108 : decode cd_Wr_make 108 = .ok (.invokevirtual 113, 3) := by decide +kernel
theorem d_Wr_make_111 : decode cd_Wr_make 111 = .ok (.ifCond .eq 44, 3) := by decide +kernel
theorem d_Wr_make_114 : decode cd_Wr_make 114 = .ok (.iload 8, 2) := by decide +kernel
theorem d_Wr_make_116 : decode cd_Wr_make 116 = .ok (.iconst 2, 1) := by decide +kernel
theorem d_Wr_make_117 : decode cd_Wr_make 117 = .ok (.if_icmp .ne 12, 3) := by decide +kernel
theorem d_Wr_make_120 : decode cd_Wr_make 120 = .ok (.aload_n 0, 1) := by decide +kernel
theorem d_Wr_make_121 : decode cd_Wr_make 121 = .ok (.iload 9, 2) := by decide +kernel
theorem d_Wr_make_123 : decode cd_Wr_make 123 = .ok (.invokevirtual 117, 3) := by decide +kernel
theorem d_Wr_make_126 : decode cd_Wr_make 126 = .ok (.ifCond .eq 29, 3) := by decide +kernel
theorem d_Wr_make_129 : decode cd_Wr_make 129 = .ok (.iload 8, 2) := by decide +kernel
theorem d_Wr_make_131 : decode cd_Wr_make 131 = .ok (.iconst 3, 1) := by decide +kernel
theorem d_Wr_make_132 : decode cd_Wr_make 132 = .ok (.if_icmp .ne 26, 3) := by decide +kernel
theorem d_Wr_make_135 : decode cd_Wr_make 135 = .ok (.aload_n 0, 1) := by decide +kernel
theorem d_Wr_make_136 : decode cd_Wr_make 136 = .ok (.iload 9, 2) := by decide +kernel
theorem d_Wr_make_138 : decode cd_Wr_make 138 = .ok (.aload_n 1, 1) := by decide +kernel
theorem d_Wr_make_139 : decode cd_Wr_make 139 = .ok (.getfield 108, 3) := by decide +kernel
theorem d_Wr_make_142 : decode cd_Wr_make 142 = .ok (.sipush 1024, 3) := by decide +kernel
theorem d_Wr_make_145 : decode cd_Wr_make 145 = .ok (.iload 7, 2) := by decide +kernel
theorem d_Wr_make_147 : decode cd_Wr_make 147 = .ok (.iadd, 1) := by decide +kernel
theorem d_Wr_make_148 : decode cd_Wr_make 148 = .ok (.iaload, 1) := by decide +kernel
theorem d_Wr_make_149 : decode cd_Wr_make 149 = .ok (.invokevirtual 120, 3) := by decide +kernel
theorem d_Wr_make_152 : decode cd_Wr_make 152 = .ok (.ifCond .ne 6, 3) := by decide +kernel
theorem d_Wr_make_155 : decode cd_Wr_make 155 = .ok (.bipush (-2), 2) := by decide +kernel
theorem d_Wr_make_157 : decode cd_Wr_make 157 = .ok (.ireturn, 1) := by decide +kernel
theorem d_Wr_make_158 : decode cd_Wr_make 158 = .ok (.iinc 6 1, 3) := by decide +kernel
theorem d_Wr_make_161 : decode cd_Wr_make 161 = .ok (.goto (-119), 3) := by decide +kernel
theorem d_Wr_make_164 : decode cd_Wr_make 164 = .ok (.iinc 4 1, 3) := by decide +kernel
theorem d_Wr_make_167 : decode cd_Wr_make 167 = .ok (.goto (-155), 3) := by decide +kernel
theorem d_Wr_make_170 : decode cd_Wr_make 170 = .ok (.aload_n 0, 1) := by decide +kernel
theorem d_Wr_make_171 : decode cd_Wr_make 171 = .ok (.getfield 39, 3) := by decide +kernel
theorem d_Wr_make_174 : decode cd_Wr_make 174 = .ok (.getfield 46, 3) := by decide +kernel
theorem d_Wr_make_177 : decode cd_Wr_make 177 = .ok (.aload_n 0, 1) := by decide +kernel
theorem d_Wr_make_178 : decode cd_Wr_make 178 = .ok (.getfield 50, 3) := by decide +kernel
theorem d_Wr_make_181 : decode cd_Wr_make 181 = .ok (.aload_n 0, 1) := by decide +kernel
theorem d_Wr_make_182 : decode cd_Wr_make 182 = .ok (.getfield 82, 3) := by decide +kernel
theorem d_Wr_make_185 : decode cd_Wr_make 185 = .ok (.iadd, 1) := by decide +kernel
theorem d_Wr_make_186 : decode cd_Wr_make 186 = .ok (.if_icmp .ne 23, 3) := by decide +kernel
theorem d_Wr_make_189 : decode cd_Wr_make 189 = .ok (.aload_n 0, 1) := by decide +kernel
theorem d_Wr_make_190 : decode cd_Wr_make 190 = .ok (.getfield 18, 3) := by decide +kernel
theorem d_Wr_make_193 : decode cd_Wr_make 193 = .ok (.invokevirtual 68, 3) := by decide +kernel
theorem d_Wr_make_196 : decode cd_Wr_make 196 = .ok (.ifCond .gt 13, 3) := by decide +kernel
theorem d_Wr_make_199 : decode cd_Wr_make 199 = .ok (.aload_n 0, 1) := by decide +kernel
theorem d_Wr_make_200 : decode cd_Wr_make 200 = .ok (.getfield 24, 3) := by decide +kernel
theorem d_Wr_make_203 : decode cd_Wr_make 203 = .ok (.invokevirtual 68, 3) := by decide +kernel
theorem d_Wr_make_206 : decode cd_Wr_make 206 = .ok (.ifCond .le 6, 3) := by decide +kernel
theorem d_Wr_make_209 : decode cd_Wr_make 209 = .ok (.bipush (-2), 2) := by decide +kernel
theorem d_Wr_make_211 : decode cd_Wr_make 211 = .ok (.ireturn, 1) := by decide +kernel
theorem d_Wr_make_212 : decode cd_Wr_make 212 = .ok (.aload_n 0, 1) := by decide +kernel
theorem d_Wr_make_213 : decode cd_Wr_make 213 = .ok (.getfield 61, 3) := by decide +kernel
theorem d_Wr_make_216 : decode cd_Wr_make 216 = .ok (.ifCond .eq 34, 3) := by decide +kernel
theorem d_Wr_make_219 : decode cd_Wr_make 219 = .ok (.aload_n 0, 1) := by decide +kernel
theorem d_Wr_make_220 : decode cd_Wr_make 220 = .ok (.getfield 39, 3) := by decide +kernel
theorem d_Wr_make_223 : decode cd_Wr_make 223 = .ok (.getfield 108, 3) := by decide +kernel
theorem d_Wr_make_226 : decode cd_Wr_make 226 = .ok (.aload_n 0, 1) := by decide +kernel
theorem d_Wr_make_227 : decode cd_Wr_make 227 = .ok (.getfield 50, 3) := by decide +kernel
theorem d_Wr_make_230 : decode cd_Wr_make 230 = .ok (.aload_n 0, 1) := by decide +kernel
theorem d_Wr_make_231 : decode cd_Wr_make 231 = .ok (.getfield 82, 3) := by decide +kernel
theorem d_Wr_make_234 : decode cd_Wr_make 234 = .ok (.invokestatic 124, 3) := by decide +kernel
theorem d_Wr_make_237 : decode cd_Wr_make 237 = .ok (.aload_n 0, 1) := by decide +kernel
theorem d_Wr_make_238 : decode cd_Wr_make 238 = .ok (.getfield 96, 3) := by decide +kernel
theorem d_Wr_make_241 : decode cd_Wr_make 241 = .ok (.lcmp, 1) := by decide +kernel
theorem d_Wr_make_242 : decode cd_Wr_make 242 = .ok (.ifCond .eq 8, 3) := by decide +kernel
theorem d_Wr_make_245 : decode cd_Wr_make 245 = .ok (.bipush (-6), 2) := by decide +kernel
theorem d_Wr_make_247 : decode cd_Wr_make 247 = .ok (.goto 4, 3) := by decide +kernel
theorem d_Wr_make_250 : decode cd_Wr_make 250 = .ok (.iconst 0, 1) := by decide +kernel
theorem d_Wr_make_251 : decode cd_Wr_make 251 = .ok (.ireturn, 1) := by decide +kernel
theorem d_Wr_readSize_0 : decode cd_Wr_readSize 0 = .ok (.iload_n 1, 1) := by decide +kernel
theorem d_Wr_readSize_1 : decode cd_Wr_readSize 1 = .ok (.ifCond .ne 13, 3) := by decide +kernel
theorem d_Wr_readSize_4 : decode cd_Wr_readSize 4 = .ok (.aload_n 0, 1) := by decide +kernel
theorem d_Wr_readSize_5 : decode cd_Wr_readSize 5 = .ok (.getfield 21, 3) := by decide +kernel
theorem d_Wr_readSize_8 : decode cd_Wr_readSize 8 = .ok (.invokevirtual 65, 3) := by decide +kernel
theorem d_Wr_readSize_11 : decode cd_Wr_readSize 11 = .ok (.goto 4, 3) := by decide +kernel
theorem d_Wr_readSize_14 : decode cd_Wr_readSize 14 = .ok (.iload_n 1, 1) := by decide +kernel
theorem d_Wr_readSize_15 : decode cd_Wr_readSize 15 = .ok (.istore_n 2, 1) := by decide +kernel
theorem d_Wr_readSize_16 : decode cd_Wr_readSize 16 = .ok (.iload_n 2, 1) := by decide +kernel
theorem d_Wr_readSize_17 : decode cd_Wr_readSize 17 = .ok (.aload_n 0, 1) := by decide +kernel
theorem d_Wr_readSize_18 : decode cd_Wr_readSize 18 = .ok (.getfield 50, 3) := by decide +kernel
theorem d_Wr_readSize_21 : decode cd_Wr_readSize 21 = .ok (.aload_n 0, 1) := by decide +kernel
theorem d_Wr_readSize_22 : decode cd_Wr_readSize 22 = .ok (.getfield 82, 3) := by decide +kernel
theorem d_Wr_readSize_25 : decode cd_Wr_readSize 25 = .ok (.iadd, 1) := by decide +kernel
theorem d_Wr_readSize_26 : decode cd_Wr_readSize 26 = .ok (.aload_n 0, 1) := by decide +kernel
theorem d_Wr_readSize_27 : decode cd_Wr_readSize 27 = .ok (.getfield 39, 3) := by decide +kernel
theorem d_Wr_readSize_30 : decode cd_Wr_readSize 30 = .ok (.getfield 46, 3) := by decide +kernel
theorem d_Wr_readSize_33 : decode cd_Wr_readSize 33 = .ok (.isub, 1) := by decide +kernel
theorem d_Wr_readSize_34 : decode cd_Wr_readSize 34 = .ok (.if_icmp .gt 7, 3) := by decide +kernel
theorem d_Wr_readSize_37 : decode cd_Wr_readSize 37 = .ok (.iload_n 2, 1) := by decide +kernel
theorem d_Wr_readSize_38 : decode cd_Wr_readSize 38 = .ok (.goto 4, 3) := by decide +kernel
theorem d_Wr_readSize_41 : decode cd_Wr_readSize 41 = .ok (.iconst (-1), 1) := by decide +kernel
theorem d_Wr_readSize_42 : decode cd_Wr_readSize 42 = .ok (.ireturn, 1) := by decide +kernel
theorem d_Wr_makeAdd_0 : decode cd_Wr_makeAdd 0 = .ok (.iload_n 1, 1) := by decide +kernel
theorem d_Wr_makeAdd_1 : decode cd_Wr_makeAdd 1 = .ok (.aload_n 0, 1) := by decide +kernel
theorem d_Wr_makeAdd_2 : decode cd_Wr_makeAdd 2 = .ok (.getfield 18, 3) := by decide +kernel
theorem d_Wr_makeAdd_5 : decode cd_Wr_makeAdd 5 = .ok (.invokevirtual 68, 3) := by decide +kernel
theorem d_Wr_makeAdd_8 : decode cd_Wr_makeAdd 8 = .ok (.if_icmp .le 5, 3) := by decide +kernel
theorem d_Wr_makeAdd_11 : decode cd_Wr_makeAdd 11 = .ok (.iconst 0, 1) := by decide +kernel
theorem d_Wr_makeAdd_12 : decode cd_Wr_makeAdd 12 = .ok (.ireturn, 1) := by decide +kernel
theorem d_Wr_makeAdd_13 : decode cd_Wr_makeAdd 13 = .ok (.aload_n 0, 1) := by decide +kernel
theorem d_Wr_makeAdd_14 : decode cd_Wr_makeAdd 14 = .ok (.getfield 39, 3) := by decide +kernel
theorem d_Wr_makeAdd_17 : decode cd_Wr_makeAdd 17 = .ok (.aload_n 0, 1) := by decide +kernel
theorem d_Wr_makeAdd_18 : decode cd_Wr_makeAdd 18 = .ok (.getfield 18, 3) := by decide +kernel
theorem d_Wr_makeAdd_21 : decode cd_Wr_makeAdd 21 = .ok (.getfield 71, 3) := by decide +kernel
theorem d_Wr_makeAdd_24 : decode cd_Wr_makeAdd 24 = .ok (.aload_n 0, 1) := by decide +kernel
theorem d_Wr_makeAdd_25 : decode cd_Wr_makeAdd 25 = .ok (.getfield 18, 3) := by decide +kernel
theorem d_Wr_makeAdd_28 : decode cd_Wr_makeAdd 28 = .ok (.getfield 75, 3) := by decide +kernel
theorem d_Wr_makeAdd_31 : decode cd_Wr_makeAdd 31 = .ok (.iload_n 1, 1) := by decide +kernel
theorem d_Wr_makeAdd_32 : decode cd_Wr_makeAdd 32 = .ok (.invokevirtual 128, 3) := by decide +kernel
theorem d_Wr_makeAdd_35 : decode cd_Wr_makeAdd 35 = .ok (.aload_n 0, 1) := by decide +kernel
theorem d_Wr_makeAdd_36 : decode cd_Wr_makeAdd 36 = .ok (.getfield 18, 3) := by decide +kernel
theorem d_Wr_makeAdd_39 : decode cd_Wr_makeAdd 39 = .ok (.dup, 1) := by decide +kernel
theorem d_Wr_makeAdd_40 : decode cd_Wr_makeAdd 40 = .ok (.getfield 75, 3) := by decide +kernel
theorem d_Wr_makeAdd_43 : decode cd_Wr_makeAdd 43 = .ok (.iload_n 1, 1) := by decide +kernel
theorem d_Wr_makeAdd_44 : decode cd_Wr_makeAdd 44 = .ok (.iadd, 1) := by decide +kernel
theorem d_Wr_makeAdd_45 : decode cd_Wr_makeAdd 45 = .ok (.putfield 75, 3) := by decide +kernel
theorem d_Wr_makeAdd_48 : decode cd_Wr_makeAdd 48 = .ok (.iconst 1, 1) := by decide +kernel
theorem d_Wr_makeAdd_49 : decode cd_Wr_makeAdd 49 = .ok (.ireturn, 1) := by decide +kernel
theorem d_Wr_makeRun_0 : decode cd_Wr_makeRun 0 = .ok (.aload_n 0, 1) := by decide +kernel
theorem d_Wr_makeRun_1 : decode cd_Wr_makeRun 1 = .ok (.getfield 18, 3) := by decide +kernel
theorem d_Wr_makeRun_4 : decode cd_Wr_makeRun 4 = .ok (.invokevirtual 53, 3) := by decide +kernel
theorem d_Wr_makeRun_7 : decode cd_Wr_makeRun 7 = .ok (.istore_n 2, 1) := by decide +kernel
theorem d_Wr_makeRun_8 : decode cd_Wr_makeRun 8 = .ok (.iconst 0, 1) := by decide +kernel
theorem d_Wr_makeRun_9 : decode cd_Wr_makeRun 9 = .ok (.istore_n 3, 1) := by decide +kernel
theorem d_Wr_makeRun_10 : decode cd_Wr_makeRun 10 = .ok (.iload_n 3, 1) := by decide +kernel
theorem d_Wr_makeRun_11 : decode cd_Wr_makeRun 11 = .ok (.iload_n 1, 1) := by decide +kernel
theorem d_Wr_makeRun_12 : decode cd_Wr_makeRun 12 = .ok (.if_icmp .ge 21, 3) := by decide +kernel
theorem d_Wr_makeRun_15 : decode cd_Wr_makeRun 15 = .ok (.iload_n 2, 1) := by decide +kernel
theorem d_Wr_makeRun_16 : decode cd_Wr_makeRun 16 = .ok (.ifCond .lt 17, 3) := by decide +kernel
theorem d_Wr_makeRun_19 : decode cd_Wr_makeRun 19 = .ok (.aload_n 0, 1) := by decide +kernel
theorem d_Wr_makeRun_20 : decode cd_Wr_makeRun 20 = .ok (.getfield 39, 3) := by decide +kernel
theorem d_Wr_makeRun_23 : decode cd_Wr_makeRun 23 = .ok (.iload_n 2, 1) := by decide +kernel
theorem d_Wr_makeRun_24 : decode cd_Wr_makeRun 24 = .ok (.invokevirtual 131, 3) := by decide +kernel
theorem d_Wr_makeRun_27 : decode cd_Wr_makeRun 27 = .ok (.iinc 3 1, 3) := by decide +kernel
theorem d_Wr_makeRun_30 : decode cd_Wr_makeRun 30 = .ok (.goto (-20), 3) := by decide +kernel
theorem d_Wr_makeRun_33 : decode cd_Wr_makeRun 33 = .ok (.iload_n 2, 1) := by decide +kernel
theorem d_Wr_makeRun_34 : decode cd_Wr_makeRun 34 = .ok (.ifCond .lt 7, 3) := by decide +kernel
theorem d_Wr_makeRun_37 : decode cd_Wr_makeRun 37 = .ok (.iconst 1, 1) := by decide +kernel
theorem d_Wr_makeRun_38 : decode cd_Wr_makeRun 38 = .ok (.goto 4, 3) := by decide +kernel
theorem d_Wr_makeRun_41 : decode cd_Wr_makeRun 41 = .ok (.iconst 0, 1) := by decide +kernel
theorem d_Wr_makeRun_42 : decode cd_Wr_makeRun 42 = .ok (.ireturn, 1) := by decide +kernel
theorem d_Wr_makeCopy_0 : decode cd_Wr_makeCopy 0 = .ok (.aload_n 0, 1) := by decide +kernel
theorem d_Wr_makeCopy_1 : decode cd_Wr_makeCopy 1 = .ok (.getfield 30, 3) := by decide +kernel
theorem d_Wr_makeCopy_4 : decode cd_Wr_makeCopy 4 = .ok (.iload_n 2, 1) := by decide +kernel
theorem d_Wr_makeCopy_5 : decode cd_Wr_makeCopy 5 = .ok (.aload_n 0, 1) := by decide +kernel
theorem d_Wr_makeCopy_6 : decode cd_Wr_makeCopy 6 = .ok (.getfield 93, 3) := by decide +kernel
theorem d_Wr_makeCopy_9 : decode cd_Wr_makeCopy 9 = .ok (.aload_n 0, 1) := by decide +kernel
theorem d_Wr_makeCopy_10 : decode cd_Wr_makeCopy 10 = .ok (.getfield 39, 3) := by decide +kernel
theorem d_Wr_makeCopy_13 : decode cd_Wr_makeCopy 13 = .ok (.getfield 46, 3) := by decide +kernel
theorem d_Wr_makeCopy_16 : decode cd_Wr_makeCopy 16 = .ok (.iadd, 1) := by decide +kernel
theorem d_Wr_makeCopy_17 : decode cd_Wr_makeCopy 17 = .ok (.aload_n 0, 1) := by decide +kernel
theorem d_Wr_makeCopy_18 : decode cd_Wr_makeCopy 18 = .ok (.getfield 50, 3) := by decide +kernel
theorem d_Wr_makeCopy_21 : decode cd_Wr_makeCopy 21 = .ok (.isub, 1) := by decide +kernel
theorem d_Wr_makeCopy_22 : decode cd_Wr_makeCopy 22 = .ok (.aload_n 0, 1) := by decide +kernel
theorem d_Wr_makeCopy_23 : decode cd_Wr_makeCopy 23 = .ok (.getfield 24, 3) := by decide +kernel
theorem d_Wr_makeCopy_26 : decode cd_Wr_makeCopy 26 = .ok (.invokevirtual 134, 3) := by decide +kernel
theorem d_Wr_makeCopy_29 : decode cd_Wr_makeCopy 29 = .ok (.istore_n 3, 1) := by decide +kernel
theorem d_Wr_makeCopy_30 : decode cd_Wr_makeCopy 30 = .ok (.iload_n 3, 1) := by decide +kernel
theorem d_Wr_makeCopy_31 : decode cd_Wr_makeCopy 31 = .ok (.ifCond .ge 5, 3) := by decide +kernel
theorem d_Wr_makeCopy_34 : decode cd_Wr_makeCopy 34 = .ok (.iconst 0, 1) := by decide +kernel
theorem d_Wr_makeCopy_35 : decode cd_Wr_makeCopy 35 = .ok (.ireturn, 1) := by decide +kernel
theorem d_Wr_makeCopy_36 : decode cd_Wr_makeCopy 36 = .ok (.iload_n 3, 1) := by decide +kernel
theorem d_Wr_makeCopy_37 : decode cd_Wr_makeCopy 37 = .ok (.istore 4, 2) := by decide +kernel
theorem d_Wr_makeCopy_39 : decode cd_Wr_makeCopy 39 = .ok (.iload 4, 2) := by decide +kernel
theorem d_Wr_makeCopy_41 : decode cd_Wr_makeCopy 41 = .ok (.iload_n 3, 1) := by decide +kernel
theorem d_Wr_makeCopy_42 : decode cd_Wr_makeCopy 42 = .ok (.iload_n 1, 1) := by decide +kernel
theorem d_Wr_makeCopy_43 : decode cd_Wr_makeCopy 43 = .ok (.iadd, 1) := by decide +kernel
theorem d_Wr_makeCopy_44 : decode cd_Wr_makeCopy 44 = .ok (.if_icmp .ge 63, 3) := by decide +kernel
theorem d_Wr_makeCopy_47 : decode cd_Wr_makeCopy 47 = .ok (.aload_n 0, 1) := by decide +kernel
theorem d_Wr_makeCopy_48 : decode cd_Wr_makeCopy 48 = .ok (.getfield 39, 3) := by decide +kernel
theorem d_Wr_makeCopy_51 : decode cd_Wr_makeCopy 51 = .ok (.iload 4, 2) := by decide +kernel
theorem d_Wr_makeCopy_53 : decode cd_Wr_makeCopy 53 = .ok (.aload_n 0, 1) := by decide +kernel
theorem d_Wr_makeCopy_54 : decode cd_Wr_makeCopy 54 = .ok (.getfield 93, 3) := by decide +kernel
theorem d_Wr_makeCopy_57 : decode cd_Wr_makeCopy 57 = .ok (.if_icmp .ge 21, 3) := by decide +kernel
theorem d_Wr_makeCopy_60 : decode cd_Wr_makeCopy 60 = .ok (.aload_n 0, 1) := by decide +kernel
theorem d_Wr_makeCopy_61 : decode cd_Wr_makeCopy 61 = .ok (.getfield 43, 3) := by decide +kernel
theorem d_Wr_makeCopy_64 : decode cd_Wr_makeCopy 64 = .ok (.getfield 108, 3) := by decide +kernel
theorem d_Wr_makeCopy_67 : decode cd_Wr_makeCopy 67 = .ok (.aload_n 0, 1) := by decide +kernel
theorem d_Wr_makeCopy_68 : decode cd_Wr_makeCopy 68 = .ok (.getfield 90, 3) := by decide +kernel
theorem d_Wr_makeCopy_71 : decode cd_Wr_makeCopy 71 = .ok (.iload 4, 2) := by decide +kernel
theorem d_Wr_makeCopy_73 : decode cd_Wr_makeCopy 73 = .ok (.iadd, 1) := by decide +kernel
theorem d_Wr_makeCopy_74 : decode cd_Wr_makeCopy 74 = .ok (.iaload, 1) := by decide +kernel
theorem d_Wr_makeCopy_75 : decode cd_Wr_makeCopy 75 = .ok (.goto 23, 3) := by decide +kernel
theorem d_Wr_makeCopy_78 : decode cd_Wr_makeCopy 78 = .ok (.aload_n 0, 1) := by decide +kernel
theorem d_Wr_makeCopy_79 : decode cd_Wr_makeCopy 79 = .ok (.getfield 39, 3) := by decide +kernel
theorem d_Wr_makeCopy_82 : decode cd_Wr_makeCopy 82 = .ok (.getfield 108, 3) := by decide +kernel
theorem d_Wr_makeCopy_85 : decode cd_Wr_makeCopy 85 = .ok (.aload_n 0, 1) := by decide +kernel
theorem d_Wr_makeCopy_86 : decode cd_Wr_makeCopy 86 = .ok (.getfield 50, 3) := by decide +kernel
theorem d_Wr_makeCopy_89 : decode cd_Wr_makeCopy 89 = .ok (.iload 4, 2) := by decide +kernel
theorem d_Wr_makeCopy_91 : decode cd_Wr_makeCopy 91 = .ok (.iadd, 1) := by decide +kernel
theorem d_Wr_makeCopy_92 : decode cd_Wr_makeCopy 92 = .ok (.aload_n 0, 1) := by decide +kernel
theorem d_Wr_makeCopy_93 : decode cd_Wr_makeCopy 93 = .ok (.getfield 93, 3) := by decide +kernel
theorem d_Wr_makeCopy_96 : decode cd_Wr_makeCopy 96 = .ok (.isub, 1) := by decide +kernel
theorem d_Wr_makeCopy_97 : decode cd_Wr_makeCopy 97 = .ok (.iaload, 1) := by decide +kernel
theorem d_Wr_makeCopy_98 : decode cd_Wr_makeCopy 98 = .ok (.invokevirtual 131, 3) := by decide +kernel
theorem d_Wr_makeCopy_101 : decode cd_Wr_makeCopy 101 = .ok (.iinc 4 1, 3) := by decide +kernel
theorem d_Wr_makeCopy_104 : decode cd_Wr_makeCopy 104 = .ok (.goto (-65), 3) := by decide +kernel
theorem d_Wr_makeCopy_107 : decode cd_Wr_makeCopy 107 = .ok (.iconst 1, 1) := by decide +kernel
theorem d_Wr_makeCopy_108 : decode cd_Wr_makeCopy 108 = .ok (.ireturn, 1) := by decide +kernel
