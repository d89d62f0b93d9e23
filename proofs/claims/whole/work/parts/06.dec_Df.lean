theorem d_Df_init_0 : decode cd_Df_init 0 = .ok (.aload_n 0, 1) := by decide +kernel
theorem d_Df_init_1 : decode cd_Df_init 1 = .ok (.invokespecial 1, 3) := by decide +kernel
theorem d_Df_init_4 : decode cd_Df_init 4 = .ok (.aload_n 0, 1) := by decide +kernel
theorem d_Df_init_5 : decode cd_Df_init 5 = .ok (.iconst 4, 1) := by decide +kernel
theorem d_Df_init_6 : decode cd_Df_init 6 = .ok (.anewarray 7, 3) := by decide +kernel
theorem d_Df_init_9 : decode cd_Df_init 9 = .ok (.putfield 9, 3) := by decide +kernel
theorem d_Df_init_12 : decode cd_Df_init 12 = .ok (.aload_n 0, 1) := by decide +kernel
theorem d_Df_init_13 : decode cd_Df_init 13 = .ok (.new 15, 3) := by decide +kernel
theorem d_Df_init_16 : decode cd_Df_init 16 = .ok (.dup, 1) := by decide +kernel
theorem d_Df_init_17 : decode cd_Df_init 17 = .ok (.invokespecial 17, 3) := by decide +kernel
theorem d_Df_init_20 : decode cd_Df_init 20 = .ok (.putfield 18, 3) := by decide +kernel
theorem d_Df_init_23 : decode cd_Df_init 23 = .ok (.aload_n 0, 1) := by decide +kernel
theorem d_Df_init_24 : decode cd_Df_init 24 = .ok (.new 22, 3) := by decide +kernel
theorem d_Df_init_27 : decode cd_Df_init 27 = .ok (.dup, 1) := by decide +kernel
theorem d_Df_init_28 : decode cd_Df_init 28 = .ok (.invokespecial 24, 3) := by decide +kernel
theorem d_Df_init_31 : decode cd_Df_init 31 = .ok (.putfield 25, 3) := by decide +kernel
theorem d_Df_init_34 : decode cd_Df_init 34 = .ok (.aload_n 0, 1) := by decide +kernel
theorem d_Df_init_35 : decode cd_Df_init 35 = .ok (.new 29, 3) := by decide +kernel
theorem d_Df_init_38 : decode cd_Df_init 38 = .ok (.dup, 1) := by decide +kernel
theorem d_Df_init_39 : decode cd_Df_init 39 = .ok (.invokespecial 31, 3) := by decide +kernel
theorem d_Df_init_42 : decode cd_Df_init 42 = .ok (.putfield 32, 3) := by decide +kernel
theorem d_Df_init_45 : decode cd_Df_init 45 = .ok (.aload_n 0, 1) := by decide +kernel
theorem d_Df_init_46 : decode cd_Df_init 46 = .ok (.new 36, 3) := by decide +kernel
theorem d_Df_init_49 : decode cd_Df_init 49 = .ok (.dup, 1) := by decide +kernel
theorem d_Df_init_50 : decode cd_Df_init 50 = .ok (.invokespecial 38, 3) := by decide +kernel
theorem d_Df_init_53 : decode cd_Df_init 53 = .ok (.putfield 39, 3) := by decide +kernel
theorem d_Df_init_56 : decode cd_Df_init 56 = .ok (.aload_n 0, 1) := by decide +kernel
theorem d_Df_init_57 : decode cd_Df_init 57 = .ok (.new 43, 3) := by decide +kernel
theorem d_Df_init_60 : decode cd_Df_init 60 = .ok (.dup, 1) := by decide +kernel
theorem d_Df_init_61 : decode cd_Df_init 61 = .ok (.invokespecial 45, 3) := by decide +kernel
theorem d_Df_init_64 : decode cd_Df_init 64 = .ok (.putfield 46, 3) := by decide +kernel
theorem d_Df_init_67 : decode cd_Df_init 67 = .ok (.aload_n 0, 1) := by decide +kernel
theorem d_Df_init_68 : decode cd_Df_init 68 = .ok (.new 50, 3) := by decide +kernel
theorem d_Df_init_71 : decode cd_Df_init 71 = .ok (.dup, 1) := by decide +kernel
theorem d_Df_init_72 : decode cd_Df_init 72 = .ok (.invokespecial 52, 3) := by decide +kernel
theorem d_Df_init_75 : decode cd_Df_init 75 = .ok (.putfield 53, 3) := by decide +kernel
theorem d_Df_init_78 : decode cd_Df_init 78 = .ok (.aload_n 0, 1) := by decide +kernel
theorem d_Df_init_79 : decode cd_Df_init 79 = .ok (.new 57, 3) := by decide +kernel
theorem d_Df_init_82 : decode cd_Df_init 82 = .ok (.dup, 1) := by decide +kernel
theorem d_Df_init_83 : decode cd_Df_init 83 = .ok (.invokespecial 59, 3) := by decide +kernel
theorem d_Df_init_86 : decode cd_Df_init 86 = .ok (.putfield 60, 3) := by decide +kernel
theorem d_Df_init_89 : decode cd_Df_init 89 = .ok (.aload_n 0, 1) := by decide +kernel
theorem d_Df_init_90 : decode cd_Df_init 90 = .ok (.bipush 8, 2) := by decide +kernel
theorem d_Df_init_92 : decode cd_Df_init 92 = .ok (.putfield 64, 3) := by decide +kernel
theorem d_Df_init_95 : decode cd_Df_init 95 = .ok (.aload_n 0, 1) := by decide +kernel
theorem d_Df_init_96 : decode cd_Df_init 96 = .ok (.bipush 64, 2) := by decide +kernel
theorem d_Df_init_98 : decode cd_Df_init 98 = .ok (.putfield 68, 3) := by decide +kernel
theorem d_Df_init_101 : decode cd_Df_init 101 = .ok (.aload_n 0, 1) := by decide +kernel
theorem d_Df_init_102 : decode cd_Df_init 102 = .ok (.iconst 0, 1) := by decide +kernel
theorem d_Df_init_103 : decode cd_Df_init 103 = .ok (.putfield 71, 3) := by decide +kernel
theorem d_Df_init_106 : decode cd_Df_init 106 = .ok (.aload_n 0, 1) := by decide +kernel
theorem d_Df_init_107 : decode cd_Df_init 107 = .ok (.getfield 9, 3) := by decide +kernel
theorem d_Df_init_110 : decode cd_Df_init 110 = .ok (.iconst 0, 1) := by decide +kernel
theorem d_Df_init_111 : decode cd_Df_init 111 = .ok (.new 7, 3) := by decide +kernel
theorem d_Df_init_114 : decode cd_Df_init 114 = .ok (.dup, 1) := by decide +kernel
theorem d_Df_init_115 : decode cd_Df_init 115 = .ok (.sipush 300, 3) := by decide +kernel
theorem d_Df_init_118 : decode cd_Df_init 118 = .ok (.invokespecial 74, 3) := by decide +kernel
theorem d_Df_init_121 : decode cd_Df_init 121 = .ok (.aastore, 1) := by decide +kernel
theorem d_Df_init_122 : decode cd_Df_init 122 = .ok (.aload_n 0, 1) := by decide +kernel
theorem d_Df_init_123 : decode cd_Df_init 123 = .ok (.getfield 9, 3) := by decide +kernel
theorem d_Df_init_126 : decode cd_Df_init 126 = .ok (.iconst 1, 1) := by decide +kernel
theorem d_Df_init_127 : decode cd_Df_init 127 = .ok (.new 7, 3) := by decide +kernel
theorem d_Df_init_130 : decode cd_Df_init 130 = .ok (.dup, 1) := by decide +kernel
theorem d_Df_init_131 : decode cd_Df_init 131 = .ok (.sipush 300, 3) := by decide +kernel
theorem d_Df_init_134 : decode cd_Df_init 134 = .ok (.invokespecial 74, 3) := by decide +kernel
theorem d_Df_init_137 : decode cd_Df_init 137 = .ok (.aastore, 1) := by decide +kernel
theorem d_Df_init_138 : decode cd_Df_init 138 = .ok (.aload_n 0, 1) := by decide +kernel
theorem d_Df_init_139 : decode cd_Df_init 139 = .ok (.getfield 9, 3) := by decide +kernel
theorem d_Df_init_142 : decode cd_Df_init 142 = .ok (.iconst 2, 1) := by decide +kernel
theorem d_Df_init_143 : decode cd_Df_init 143 = .ok (.new 7, 3) := by decide +kernel
theorem d_Df_init_146 : decode cd_Df_init 146 = .ok (.dup, 1) := by decide +kernel
theorem d_Df_init_147 : decode cd_Df_init 147 = .ok (.sipush 700, 3) := by decide +kernel
theorem d_Df_init_150 : decode cd_Df_init 150 = .ok (.invokespecial 74, 3) := by decide +kernel
theorem d_Df_init_153 : decode cd_Df_init 153 = .ok (.aastore, 1) := by decide +kernel
theorem d_Df_init_154 : decode cd_Df_init 154 = .ok (.aload_n 0, 1) := by decide +kernel
theorem d_Df_init_155 : decode cd_Df_init 155 = .ok (.getfield 9, 3) := by decide +kernel
theorem d_Df_init_158 : decode cd_Df_init 158 = .ok (.iconst 3, 1) := by decide +kernel
theorem d_Df_init_159 : decode cd_Df_init 159 = .ok (.new 7, 3) := by decide +kernel
theorem d_Df_init_162 : decode cd_Df_init 162 = .ok (.dup, 1) := by decide +kernel
theorem d_Df_init_163 : decode cd_Df_init 163 = .ok (.sipush 300, 3) := by decide +kernel
theorem d_Df_init_166 : decode cd_Df_init 166 = .ok (.invokespecial 74, 3) := by decide +kernel
theorem d_Df_init_169 : decode cd_Df_init 169 = .ok (.aastore, 1) := by decide +kernel
theorem d_Df_init_170 : decode cd_Df_init 170 = .ok (.return_, 1) := by decide +kernel
theorem d_Df_put_0 : decode cd_Df_put 0 = .ok (.iload_n 1, 1) := by decide +kernel
theorem d_Df_put_1 : decode cd_Df_put 1 = .ok (.invokestatic 77, 3) := by decide +kernel
theorem d_Df_put_4 : decode cd_Df_put 4 = .ok (.ifCond .eq 30, 3) := by decide +kernel
theorem d_Df_put_7 : decode cd_Df_put 7 = .ok (.iload 4, 2) := by decide +kernel
theorem d_Df_put_9 : decode cd_Df_put 9 = .ok (.iconst 1, 1) := by decide +kernel
theorem d_Df_put_10 : decode cd_Df_put 10 = .ok (.if_icmp .lt 24, 3) := by decide +kernel
theorem d_Df_put_13 : decode cd_Df_put 13 = .ok (.iload 4, 2) := by decide +kernel
theorem d_Df_put_15 : decode cd_Df_put 15 = .ok (.bipush 8, 2) := by decide +kernel
theorem d_Df_put_17 : decode cd_Df_put 17 = .ok (.if_icmp .gt 17, 3) := by decide +kernel
theorem d_Df_put_20 : decode cd_Df_put 20 = .ok (.aload_n 0, 1) := by decide +kernel
theorem d_Df_put_21 : decode cd_Df_put 21 = .ok (.getfield 9, 3) := by decide +kernel
theorem d_Df_put_24 : decode cd_Df_put 24 = .ok (.iload_n 1, 1) := by decide +kernel
theorem d_Df_put_25 : decode cd_Df_put 25 = .ok (.aaload, 1) := by decide +kernel
theorem d_Df_put_26 : decode cd_Df_put 26 = .ok (.invokevirtual 81, 3) := by decide +kernel
theorem d_Df_put_29 : decode cd_Df_put 29 = .ok (.iload 4, 2) := by decide +kernel
theorem d_Df_put_31 : decode cd_Df_put 31 = .ok (.if_icmp .ge 5, 3) := by decide +kernel
theorem d_Df_put_34 : decode cd_Df_put 34 = .ok (.iconst 0, 1) := by decide +kernel
theorem d_Df_put_35 : decode cd_Df_put 35 = .ok (.ireturn, 1) := by decide +kernel
theorem d_Df_put_36 : decode cd_Df_put 36 = .ok (.iconst 0, 1) := by decide +kernel
theorem d_Df_put_37 : decode cd_Df_put 37 = .ok (.istore 5, 2) := by decide +kernel
theorem d_Df_put_39 : decode cd_Df_put 39 = .ok (.iload 5, 2) := by decide +kernel
theorem d_Df_put_41 : decode cd_Df_put 41 = .ok (.iload 4, 2) := by decide +kernel
theorem d_Df_put_43 : decode cd_Df_put 43 = .ok (.if_icmp .ge 30, 3) := by decide +kernel
theorem d_Df_put_46 : decode cd_Df_put 46 = .ok (.aload_n 0, 1) := by decide +kernel
theorem d_Df_put_47 : decode cd_Df_put 47 = .ok (.getfield 9, 3) := by decide +kernel
theorem d_Df_put_50 : decode cd_Df_put 50 = .ok (.iload_n 1, 1) := by decide +kernel
theorem d_Df_put_51 : decode cd_Df_put 51 = .ok (.aaload, 1) := by decide +kernel
theorem d_Df_put_52 : decode cd_Df_put 52 = .ok (.lload_n 2, 1) := by decide +kernel
theorem d_Df_put_53 : decode cd_Df_put 53 = .ok (.bipush 8, 2) := by decide +kernel
theorem d_Df_put_55 : decode cd_Df_put 55 = .ok (.iload 5, 2) := by decide +kernel
theorem d_Df_put_57 : decode cd_Df_put 57 = .ok (.imul, 1) := by decide +kernel
theorem d_Df_put_58 : decode cd_Df_put 58 = .ok (.lushr, 1) := by decide +kernel
theorem d_Df_put_59 : decode cd_Df_put 59 = .ok (.l2i, 1) := by decide +kernel
theorem d_Df_put_60 : decode cd_Df_put 60 = .ok (.sipush 255, 3) := by decide +kernel
theorem d_Df_put_63 : decode cd_Df_put 63 = .ok (.iand, 1) := by decide +kernel
theorem d_Df_put_64 : decode cd_Df_put 64 = .ok (.invokevirtual 85, 3) := by decide +kernel
theorem d_Df_put_67 : decode cd_Df_put 67 = .ok (.iinc 5 1, 3) := by decide +kernel
theorem d_Df_put_70 : decode cd_Df_put 70 = .ok (.goto (-31), 3) := by decide +kernel
theorem d_Df_put_73 : decode cd_Df_put 73 = .ok (.aload_n 0, 1) := by decide +kernel
theorem d_Df_put_74 : decode cd_Df_put 74 = .ok (.iload_n 1, 1) := by decide +kernel
theorem d_Df_put_75 : decode cd_Df_put 75 = .ok (.invokevirtual 88, 3) := by decide +kernel
theorem d_Df_put_78 : decode cd_Df_put 78 = .ok (.iconst 1, 1) := by decide +kernel
theorem d_Df_put_79 : decode cd_Df_put 79 = .ok (.ireturn, 1) := by decide +kernel
theorem d_Df_set_0 : decode cd_Df_set 0 = .ok (.iload_n 1, 1) := by decide +kernel
theorem d_Df_set_1 : decode cd_Df_set 1 = .ok (.invokestatic 77, 3) := by decide +kernel
theorem d_Df_set_4 : decode cd_Df_set 4 = .ok (.ifCond .eq 16, 3) := by decide +kernel
theorem d_Df_set_7 : decode cd_Df_set 7 = .ok (.aload_n 0, 1) := by decide +kernel
theorem d_Df_set_8 : decode cd_Df_set 8 = .ok (.getfield 9, 3) := by decide +kernel
theorem d_Df_set_11 : decode cd_Df_set 11 = .ok (.iload_n 1, 1) := by decide +kernel
theorem d_Df_set_12 : decode cd_Df_set 12 = .ok (.aaload, 1) := by decide +kernel
theorem d_Df_set_13 : decode cd_Df_set 13 = .ok (.iload_n 2, 1) := by decide +kernel
theorem d_Df_set_14 : decode cd_Df_set 14 = .ok (.invokevirtual 91, 3) := by decide +kernel
theorem d_Df_set_17 : decode cd_Df_set 17 = .ok (.ifCond .ne 5, 3) := by decide +kernel
theorem d_Df_set_20 : decode cd_Df_set 20 = .ok (.iconst 0, 1) := by decide +kernel
theorem d_Df_set_21 : decode cd_Df_set 21 = .ok (.ireturn, 1) := by decide +kernel
theorem d_Df_set_22 : decode cd_Df_set 22 = .ok (.aload_n 0, 1) := by decide +kernel
theorem d_Df_set_23 : decode cd_Df_set 23 = .ok (.getfield 9, 3) := by decide +kernel
theorem d_Df_set_26 : decode cd_Df_set 26 = .ok (.iload_n 1, 1) := by decide +kernel
theorem d_Df_set_27 : decode cd_Df_set 27 = .ok (.aaload, 1) := by decide +kernel
theorem d_Df_set_28 : decode cd_Df_set 28 = .ok (.getfield 94, 3) := by decide +kernel
theorem d_Df_set_31 : decode cd_Df_set 31 = .ok (.iload_n 2, 1) := by decide +kernel
theorem d_Df_set_32 : decode cd_Df_set 32 = .ok (.iload_n 3, 1) := by decide +kernel
theorem d_Df_set_33 : decode cd_Df_set 33 = .ok (.sipush 255, 3) := by decide +kernel
theorem d_Df_set_36 : decode cd_Df_set 36 = .ok (.iand, 1) := by decide +kernel
theorem d_Df_set_37 : decode cd_Df_set 37 = .ok (.iastore, 1) := by decide +kernel
theorem d_Df_set_38 : decode cd_Df_set 38 = .ok (.aload_n 0, 1) := by decide +kernel
theorem d_Df_set_39 : decode cd_Df_set 39 = .ok (.iload_n 1, 1) := by decide +kernel
theorem d_Df_set_40 : decode cd_Df_set 40 = .ok (.invokevirtual 88, 3) := by decide +kernel
theorem d_Df_set_43 : decode cd_Df_set 43 = .ok (.iconst 1, 1) := by decide +kernel
theorem d_Df_set_44 : decode cd_Df_set 44 = .ok (.ireturn, 1) := by decide +kernel
theorem d_Df_copy_0 : decode cd_Df_copy 0 = .ok (.iload_n 1, 1) := by decide +kernel
theorem d_Df_copy_1 : decode cd_Df_copy 1 = .ok (.invokestatic 98, 3) := by decide +kernel
theorem d_Df_copy_4 : decode cd_Df_copy 4 = .ok (.ifCond .eq 32, 3) := by decide +kernel
theorem d_Df_copy_7 : decode cd_Df_copy 7 = .ok (.iload_n 2, 1) := by decide +kernel
theorem d_Df_copy_8 : decode cd_Df_copy 8 = .ok (.invokestatic 77, 3) := by decide +kernel
theorem d_Df_copy_11 : decode cd_Df_copy 11 = .ok (.ifCond .eq 25, 3) := by decide +kernel
theorem d_Df_copy_14 : decode cd_Df_copy 14 = .ok (.aload_n 0, 1) := by decide +kernel
theorem d_Df_copy_15 : decode cd_Df_copy 15 = .ok (.getfield 9, 3) := by decide +kernel
theorem d_Df_copy_18 : decode cd_Df_copy 18 = .ok (.iload_n 1, 1) := by decide +kernel
theorem d_Df_copy_19 : decode cd_Df_copy 19 = .ok (.aaload, 1) := by decide +kernel
theorem d_Df_copy_20 : decode cd_Df_copy 20 = .ok (.getfield 101, 3) := by decide +kernel
theorem d_Df_copy_23 : decode cd_Df_copy 23 = .ok (.aload_n 0, 1) := by decide +kernel
theorem d_Df_copy_24 : decode cd_Df_copy 24 = .ok (.getfield 9, 3) := by decide +kernel
theorem d_Df_copy_27 : decode cd_Df_copy 27 = .ok (.iload_n 2, 1) := by decide +kernel
theorem d_Df_copy_28 : decode cd_Df_copy 28 = .ok (.aaload, 1) := by decide +kernel
theorem d_Df_copy_29 : decode cd_Df_copy 29 = .ok (.getfield 94, 3) := by decide +kernel
theorem d_Df_copy_32 : decode cd_Df_copy 32 = .ok (.arraylength, 1) := by decide +kernel
theorem d_Df_copy_33 : decode cd_Df_copy 33 = .ok (.if_icmp .le 5, 3) := by decide +kernel
theorem d_Df_copy_36 : decode cd_Df_copy 36 = .ok (.iconst 0, 1) := by decide +kernel
theorem d_Df_copy_37 : decode cd_Df_copy 37 = .ok (.ireturn, 1) := by decide +kernel
theorem d_Df_copy_38 : decode cd_Df_copy 38 = .ok (.aload_n 0, 1) := by decide +kernel
theorem d_Df_copy_39 : decode cd_Df_copy 39 = .ok (.getfield 9, 3) := by decide +kernel
theorem d_Df_copy_42 : decode cd_Df_copy 42 = .ok (.iload_n 2, 1) := by decide +kernel
theorem d_Df_copy_43 : decode cd_Df_copy 43 = .ok (.aaload, 1) := by decide +kernel
theorem d_Df_copy_44 : decode cd_Df_copy 44 = .ok (.aload_n 0, 1) := by decide +kernel
theorem d_Df_copy_45 : decode cd_Df_copy 45 = .ok (.getfield 9, 3) := by decide +kernel
theorem d_Df_copy_48 : decode cd_Df_copy 48 = .ok (.iload_n 1, 1) := by decide +kernel
theorem d_Df_copy_49 : decode cd_Df_copy 49 = .ok (.aaload, 1) := by decide +kernel
theorem d_Df_copy_50 : decode cd_Df_copy 50 = .ok (.invokevirtual 104, 3) := by decide +kernel
theorem d_Df_copy_53 : decode cd_Df_copy 53 = .ok (.aload_n 0, 1) := by decide +kernel
theorem d_Df_copy_54 : decode cd_Df_copy 54 = .ok (.iload_n 2, 1) := by decide +kernel
theorem d_Df_copy_55 : decode cd_Df_copy 55 = .ok (.invokevirtual 88, 3) := by decide +kernel
theorem d_Df_copy_58 : decode cd_Df_copy 58 = .ok (.iconst 1, 1) := by decide +kernel
theorem d_Df_copy_59 : decode cd_Df_copy 59 = .ok (.ireturn, 1) := by decide +kernel
theorem d_Df_clear_0 : decode cd_Df_clear 0 = .ok (.iload_n 1, 1) := by decide +kernel
theorem d_Df_clear_1 : decode cd_Df_clear 1 = .ok (.invokestatic 98, 3) := by decide +kernel
theorem d_Df_clear_4 : decode cd_Df_clear 4 = .ok (.ifCond .ne 5, 3) := by decide +kernel
theorem d_Df_clear_7 : decode cd_Df_clear 7 = .ok (.iconst (-1), 1) := by decide +kernel
theorem d_Df_clear_8 : decode cd_Df_clear 8 = .ok (.ireturn, 1) := by decide +kernel
theorem d_Df_clear_9 : decode cd_Df_clear 9 = .ok (.aload_n 0, 1) := by decide +kernel
theorem d_Df_clear_10 : decode cd_Df_clear 10 = .ok (.getfield 9, 3) := by decide +kernel
theorem d_Df_clear_13 : decode cd_Df_clear 13 = .ok (.iload_n 1, 1) := by decide +kernel
theorem d_Df_clear_14 : decode cd_Df_clear 14 = .ok (.aaload, 1) := by decide +kernel
theorem d_Df_clear_15 : decode cd_Df_clear 15 = .ok (.getfield 101, 3) := by decide +kernel
theorem d_Df_clear_18 : decode cd_Df_clear 18 = .ok (.istore_n 2, 1) := by decide +kernel
theorem d_Df_clear_19 : decode cd_Df_clear 19 = .ok (.aload_n 0, 1) := by decide +kernel
theorem d_Df_clear_20 : decode cd_Df_clear 20 = .ok (.getfield 9, 3) := by decide +kernel
theorem d_Df_clear_23 : decode cd_Df_clear 23 = .ok (.iload_n 1, 1) := by decide +kernel
theorem d_Df_clear_24 : decode cd_Df_clear 24 = .ok (.aaload, 1) := by decide +kernel
theorem d_Df_clear_25 : decode cd_Df_clear 25 = .ok (.iconst 0, 1) := by decide +kernel
theorem d_Df_clear_26 : decode cd_Df_clear 26 = .ok (.putfield 101, 3) := by decide +kernel
theorem d_Df_clear_29 : decode cd_Df_clear 29 = .ok (.aload_n 0, 1) := by decide +kernel
theorem d_Df_clear_30 : decode cd_Df_clear 30 = .ok (.iload_n 1, 1) := by decide +kernel
theorem d_Df_clear_31 : decode cd_Df_clear 31 = .ok (.invokevirtual 88, 3) := by decide +kernel
theorem d_Df_clear_34 : decode cd_Df_clear 34 = .ok (.iload_n 2, 1) := by decide +kernel
theorem d_Df_clear_35 : decode cd_Df_clear 35 = .ok (.ireturn, 1) := by decide +kernel
theorem d_Df_size_0 : decode cd_Df_size 0 = .ok (.iload_n 1, 1) := by decide +kernel
theorem d_Df_size_1 : decode cd_Df_size 1 = .ok (.invokestatic 98, 3) := by decide +kernel
theorem d_Df_size_4 : decode cd_Df_size 4 = .ok (.ifCond .eq 15, 3) := by decide +kernel
theorem d_Df_size_7 : decode cd_Df_size 7 = .ok (.aload_n 0, 1) := by decide +kernel
theorem d_Df_size_8 : decode cd_Df_size 8 = .ok (.getfield 9, 3) := by decide +kernel
theorem d_Df_size_11 : decode cd_Df_size 11 = .ok (.iload_n 1, 1) := by decide +kernel
theorem d_Df_size_12 : decode cd_Df_size 12 = .ok (.aaload, 1) := by decide +kernel
theorem d_Df_size_13 : decode cd_Df_size 13 = .ok (.getfield 101, 3) := by decide +kernel
theorem d_Df_size_16 : decode cd_Df_size 16 = .ok (.goto 4, 3) := by decide +kernel
theorem d_Df_size_19 : decode cd_Df_size 19 = .ok (.iconst (-1), 1) := by decide +kernel
theorem d_Df_size_20 : decode cd_Df_size 20 = .ok (.ireturn, 1) := by decide +kernel
theorem d_Df_at_0 : decode cd_Df_at 0 = .ok (.iload_n 1, 1) := by decide +kernel
theorem d_Df_at_1 : decode cd_Df_at 1 = .ok (.invokestatic 98, 3) := by decide +kernel
theorem d_Df_at_4 : decode cd_Df_at 4 = .ok (.ifCond .eq 30, 3) := by decide +kernel
theorem d_Df_at_7 : decode cd_Df_at 7 = .ok (.aload_n 0, 1) := by decide +kernel
theorem d_Df_at_8 : decode cd_Df_at 8 = .ok (.getfield 9, 3) := by decide +kernel
theorem d_Df_at_11 : decode cd_Df_at 11 = .ok (.iload_n 1, 1) := by decide +kernel
theorem d_Df_at_12 : decode cd_Df_at 12 = .ok (.aaload, 1) := by decide +kernel
theorem d_Df_at_13 : decode cd_Df_at 13 = .ok (.iload_n 2, 1) := by decide +kernel
theorem d_Df_at_14 : decode cd_Df_at 14 = .ok (.invokevirtual 91, 3) := by decide +kernel
theorem d_Df_at_17 : decode cd_Df_at 17 = .ok (.ifCond .eq 17, 3) := by decide +kernel
theorem d_Df_at_20 : decode cd_Df_at 20 = .ok (.aload_n 0, 1) := by decide +kernel
theorem d_Df_at_21 : decode cd_Df_at 21 = .ok (.getfield 9, 3) := by decide +kernel
theorem d_Df_at_24 : decode cd_Df_at 24 = .ok (.iload_n 1, 1) := by decide +kernel
theorem d_Df_at_25 : decode cd_Df_at 25 = .ok (.aaload, 1) := by decide +kernel
theorem d_Df_at_26 : decode cd_Df_at 26 = .ok (.getfield 94, 3) := by decide +kernel
theorem d_Df_at_29 : decode cd_Df_at 29 = .ok (.iload_n 2, 1) := by decide +kernel
theorem d_Df_at_30 : decode cd_Df_at 30 = .ok (.iaload, 1) := by decide +kernel
theorem d_Df_at_31 : decode cd_Df_at 31 = .ok (.goto 4, 3) := by decide +kernel
theorem d_Df_at_34 : decode cd_Df_at 34 = .ok (.iconst (-1), 1) := by decide +kernel
theorem d_Df_at_35 : decode cd_Df_at 35 = .ok (.ireturn, 1) := by decide +kernel
theorem d_Df_digest_0 : decode cd_Df_digest 0 = .ok (.iload_n 1, 1) := by decide +kernel
theorem d_Df_digest_1 : decode cd_Df_digest 1 = .ok (.invokestatic 98, 3) := by decide +kernel
theorem d_Df_digest_4 : decode cd_Df_digest 4 = .ok (.ifCond .ne 5, 3) := by decide +kernel
theorem d_Df_digest_7 : decode cd_Df_digest 7 = .ok (.lconst 0, 1) := by decide +kernel
theorem d_Df_digest_8 : decode cd_Df_digest 8 = .ok (.lreturn, 1) := by decide +kernel
theorem d_Df_digest_9 : decode cd_Df_digest 9 = .ok (.aload_n 0, 1) := by decide +kernel
theorem d_Df_digest_10 : decode cd_Df_digest 10 = .ok (.getfield 18, 3) := by decide +kernel
theorem d_Df_digest_13 : decode cd_Df_digest 13 = .ok (.aload_n 0, 1) := by decide +kernel
theorem d_Df_digest_14 : decode cd_Df_digest 14 = .ok (.getfield 9, 3) := by decide +kernel
theorem d_Df_digest_17 : decode cd_Df_digest 17 = .ok (.iload_n 1, 1) := by decide +kernel
theorem d_Df_digest_18 : decode cd_Df_digest 18 = .ok (.aaload, 1) := by decide +kernel
theorem d_Df_digest_19 : decode cd_Df_digest 19 = .ok (.getfield 94, 3) := by decide +kernel
theorem d_Df_digest_22 : decode cd_Df_digest 22 = .ok (.iconst 0, 1) := by decide +kernel
theorem d_Df_digest_23 : decode cd_Df_digest 23 = .ok (.aload_n 0, 1) := by decide +kernel
theorem d_Df_digest_24 : decode cd_Df_digest 24 = .ok (.getfield 9, 3) := by decide +kernel
theorem d_Df_digest_27 : decode cd_Df_digest 27 = .ok (.iload_n 1, 1) := by decide +kernel
theorem d_Df_digest_28 : decode cd_Df_digest 28 = .ok (.aaload, 1) := by decide +kernel
theorem d_Df_digest_29 : decode cd_Df_digest 29 = .ok (.getfield 101, 3) := by decide +kernel
theorem d_Df_digest_32 : decode cd_Df_digest 32 = .ok (.invokevirtual 108, 3) := by decide +kernel
theorem d_Df_digest_35 : decode cd_Df_digest 35 = .ok (.iload_n 2, 1) := by decide +kernel
theorem d_Df_digest_36 : decode cd_Df_digest 36 = .ok (.ifCond .ne 13, 3) := by decide +kernel
theorem d_Df_digest_39 : decode cd_Df_digest 39 = .ok (.aload_n 0, 1) := by decide +kernel
theorem d_Df_digest_40 : decode cd_Df_digest 40 = .ok (.getfield 18, 3) := by decide +kernel
theorem d_Df_digest_43 : decode cd_Df_digest 43 = .ok (.invokevirtual 112, 3) := by decide +kernel
theorem d_Df_digest_46 : decode cd_Df_digest 46 = .ok (.goto 10, 3) := by decide +kernel
theorem d_Df_digest_49 : decode cd_Df_digest 49 = .ok (.aload_n 0, 1) := by decide +kernel
theorem d_Df_digest_50 : decode cd_Df_digest 50 = .ok (.getfield 18, 3) := by decide +kernel
theorem d_Df_digest_53 : decode cd_Df_digest 53 = .ok (.invokevirtual 116, 3) := by decide +kernel
theorem d_Df_digest_56 : decode cd_Df_digest 56 = .ok (.lreturn, 1) := by decide +kernel
theorem d_Df_sum_0 : decode cd_Df_sum 0 = .ok (.iload_n 1, 1) := by decide +kernel
theorem d_Df_sum_1 : decode cd_Df_sum 1 = .ok (.invokestatic 98, 3) := by decide +kernel
theorem d_Df_sum_4 : decode cd_Df_sum 4 = .ok (.ifCond .eq 11, 3) := by decide +kernel
theorem d_Df_sum_7 : decode cd_Df_sum 7 = .ok (.iload_n 2, 1) := by decide +kernel
theorem d_Df_sum_8 : decode cd_Df_sum 8 = .ok (.ifCond .lt 7, 3) := by decide +kernel
theorem d_Df_sum_11 : decode cd_Df_sum 11 = .ok (.iload_n 3, 1) := by decide +kernel
theorem d_Df_sum_12 : decode cd_Df_sum 12 = .ok (.ifCond .ge 7, 3) := by decide +kernel
theorem d_Df_sum_15 : decode cd_Df_sum 15 = .ok (.ldc2_w 119, 3) := by decide +kernel
theorem d_Df_sum_18 : decode cd_Df_sum 18 = .ok (.lreturn, 1) := by decide +kernel
theorem d_Df_sum_19 : decode cd_Df_sum 19 = .ok (.aload_n 0, 1) := by decide +kernel
theorem d_Df_sum_20 : decode cd_Df_sum 20 = .ok (.getfield 9, 3) := by decide +kernel
theorem d_Df_sum_23 : decode cd_Df_sum 23 = .ok (.iload_n 1, 1) := by decide +kernel
theorem d_Df_sum_24 : decode cd_Df_sum 24 = .ok (.aaload, 1) := by decide +kernel
theorem d_Df_sum_25 : decode cd_Df_sum 25 = .ok (.astore 4, 2) := by decide +kernel
theorem d_Df_sum_27 : decode cd_Df_sum 27 = .ok (.iload_n 3, 1) := by decide +kernel
theorem d_Df_sum_28 : decode cd_Df_sum 28 = .ok (.ifCond .ne 28, 3) := by decide +kernel
theorem d_Df_sum_31 : decode cd_Df_sum 31 = .ok (.iload_n 2, 1) := by decide +kernel
theorem d_Df_sum_32 : decode cd_Df_sum 32 = .ok (.ifCond .ne 20, 3) := by decide +kernel
theorem d_Df_sum_35 : decode cd_Df_sum 35 = .ok (.aload 4, 2) := by decide +kernel
theorem d_Df_sum_37 : decode cd_Df_sum 37 = .ok (.getfield 94, 3) := by decide +kernel
theorem d_Df_sum_40 : decode cd_Df_sum 40 = .ok (.iconst 0, 1) := by decide +kernel
theorem d_Df_sum_41 : decode cd_Df_sum 41 = .ok (.aload 4, 2) := by decide +kernel
theorem d_Df_sum_43 : decode cd_Df_sum 43 = .ok (.getfield 101, 3) := by decide +kernel
theorem d_Df_sum_46 : decode cd_Df_sum 46 = .ok (.invokestatic 121, 3) := by decide +kernel
theorem d_Df_sum_49 : decode cd_Df_sum 49 = .ok (.goto 6, 3) := by decide +kernel
theorem d_Df_sum_52 : decode cd_Df_sum 52 = .ok (.ldc2_w 119, 3) := by decide +kernel
theorem d_Df_sum_55 : decode cd_Df_sum 55 = .ok (.lreturn, 1) := by decide +kernel
theorem d_Df_sum_56 : decode cd_Df_sum 56 = .ok (.iload_n 2, 1) := by decide +kernel
theorem d_Df_sum_57 : decode cd_Df_sum 57 = .ok (.aload 4, 2) := by decide +kernel
theorem d_Df_sum_59 : decode cd_Df_sum 59 = .ok (.getfield 101, 3) := by decide +kernel
theorem d_Df_sum_62 : decode cd_Df_sum 62 = .ok (.iload_n 3, 1) := by decide +kernel
theorem d_Df_sum_63 : decode cd_Df_sum 63 = .ok (.isub, 1) := by decide +kernel
theorem d_Df_sum_64 : decode cd_Df_sum 64 = .ok (.if_icmp .le 7, 3) := by decide +kernel
theorem d_Df_sum_67 : decode cd_Df_sum 67 = .ok (.ldc2_w 119, 3) := by decide +kernel
theorem d_Df_sum_70 : decode cd_Df_sum 70 = .ok (.lreturn, 1) := by decide +kernel
theorem d_Df_sum_71 : decode cd_Df_sum 71 = .ok (.aload_n 0, 1) := by decide +kernel
theorem d_Df_sum_72 : decode cd_Df_sum 72 = .ok (.getfield 25, 3) := by decide +kernel
theorem d_Df_sum_75 : decode cd_Df_sum 75 = .ok (.aload 4, 2) := by decide +kernel
theorem d_Df_sum_77 : decode cd_Df_sum 77 = .ok (.getfield 94, 3) := by decide +kernel
theorem d_Df_sum_80 : decode cd_Df_sum 80 = .ok (.iload_n 2, 1) := by decide +kernel
theorem d_Df_sum_81 : decode cd_Df_sum 81 = .ok (.iload_n 3, 1) := by decide +kernel
theorem d_Df_sum_82 : decode cd_Df_sum 82 = .ok (.invokevirtual 125, 3) := by decide +kernel
theorem d_Df_sum_85 : decode cd_Df_sum 85 = .ok (.aload_n 0, 1) := by decide +kernel
theorem d_Df_sum_86 : decode cd_Df_sum 86 = .ok (.getfield 25, 3) := by decide +kernel
theorem d_Df_sum_89 : decode cd_Df_sum 89 = .ok (.invokevirtual 126, 3) := by decide +kernel
theorem d_Df_sum_92 : decode cd_Df_sum 92 = .ok (.lreturn, 1) := by decide +kernel
theorem d_Df_sign_0 : decode cd_Df_sign 0 = .ok (.iload_n 1, 1) := by decide +kernel
theorem d_Df_sign_1 : decode cd_Df_sign 1 = .ok (.invokestatic 129, 3) := by decide +kernel
theorem d_Df_sign_4 : decode cd_Df_sign 4 = .ok (.ifCond .ne 5, 3) := by decide +kernel
theorem d_Df_sign_7 : decode cd_Df_sign 7 = .ok (.iconst (-1), 1) := by decide +kernel
theorem d_Df_sign_8 : decode cd_Df_sign 8 = .ok (.ireturn, 1) := by decide +kernel
theorem d_Df_sign_9 : decode cd_Df_sign 9 = .ok (.aload_n 0, 1) := by decide +kernel
theorem d_Df_sign_10 : decode cd_Df_sign 10 = .ok (.getfield 32, 3) := by decide +kernel
theorem d_Df_sign_13 : decode cd_Df_sign 13 = .ok (.aload_n 0, 1) := by decide +kernel
theorem d_Df_sign_14 : decode cd_Df_sign 14 = .ok (.getfield 9, 3) := by decide +kernel
theorem d_Df_sign_17 : decode cd_Df_sign 17 = .ok (.iconst 0, 1) := by decide +kernel
theorem d_Df_sign_18 : decode cd_Df_sign 18 = .ok (.aaload, 1) := by decide +kernel
theorem d_Df_sign_19 : decode cd_Df_sign 19 = .ok (.iload_n 1, 1) := by decide +kernel
theorem d_Df_sign_20 : decode cd_Df_sign 20 = .ok (.invokevirtual 132, 3) := by decide +kernel
theorem d_Df_sign_23 : decode cd_Df_sign 23 = .ok (.aload_n 0, 1) := by decide +kernel
theorem d_Df_sign_24 : decode cd_Df_sign 24 = .ok (.getfield 32, 3) := by decide +kernel
theorem d_Df_sign_27 : decode cd_Df_sign 27 = .ok (.getfield 136, 3) := by decide +kernel
theorem d_Df_sign_30 : decode cd_Df_sign 30 = .ok (.ireturn, 1) := by decide +kernel
theorem d_Df_scan_0 : decode cd_Df_scan 0 = .ok (.aload_n 0, 1) := by decide +kernel
theorem d_Df_scan_1 : decode cd_Df_scan 1 = .ok (.getfield 32, 3) := by decide +kernel
theorem d_Df_scan_4 : decode cd_Df_scan 4 = .ok (.getfield 137, 3) := by decide +kernel
theorem d_Df_scan_7 : decode cd_Df_scan 7 = .ok (.ifCond .eq 10, 3) := by decide +kernel
theorem d_Df_scan_10 : decode cd_Df_scan 10 = .ok (.iload_n 1, 1) := by decide +kernel
theorem d_Df_scan_11 : decode cd_Df_scan 11 = .ok (.invokestatic 141, 3) := by decide +kernel
theorem d_Df_scan_14 : decode cd_Df_scan 14 = .ok (.ifCond .ne 5, 3) := by decide +kernel
theorem d_Df_scan_17 : decode cd_Df_scan 17 = .ok (.iconst (-1), 1) := by decide +kernel
theorem d_Df_scan_18 : decode cd_Df_scan 18 = .ok (.ireturn, 1) := by decide +kernel
theorem d_Df_scan_19 : decode cd_Df_scan 19 = .ok (.aload_n 0, 1) := by decide +kernel
theorem d_Df_scan_20 : decode cd_Df_scan 20 = .ok (.getfield 9, 3) := by decide +kernel
theorem d_Df_scan_23 : decode cd_Df_scan 23 = .ok (.iconst 1, 1) := by decide +kernel
theorem d_Df_scan_24 : decode cd_Df_scan 24 = .ok (.aaload, 1) := by decide +kernel
theorem d_Df_scan_25 : decode cd_Df_scan 25 = .ok (.astore_n 2, 1) := by decide +kernel
theorem d_Df_scan_26 : decode cd_Df_scan 26 = .ok (.aload_n 0, 1) := by decide +kernel
theorem d_Df_scan_27 : decode cd_Df_scan 27 = .ok (.getfield 32, 3) := by decide +kernel
theorem d_Df_scan_30 : decode cd_Df_scan 30 = .ok (.getfield 144, 3) := by decide +kernel
theorem d_Df_scan_33 : decode cd_Df_scan 33 = .ok (.istore_n 3, 1) := by decide +kernel
theorem d_Df_scan_34 : decode cd_Df_scan 34 = .ok (.aload_n 0, 1) := by decide +kernel
theorem d_Df_scan_35 : decode cd_Df_scan 35 = .ok (.getfield 39, 3) := by decide +kernel
theorem d_Df_scan_38 : decode cd_Df_scan 38 = .ok (.iload_n 1, 1) := by decide +kernel
theorem d_Df_scan_39 : decode cd_Df_scan 39 = .ok (.aload_n 0, 1) := by decide +kernel
theorem d_Df_scan_40 : decode cd_Df_scan 40 = .ok (.getfield 32, 3) := by decide +kernel
theorem d_Df_scan_43 : decode cd_Df_scan 43 = .ok (.invokevirtual 145, 3) := by decide +kernel
theorem d_Df_scan_46 : decode cd_Df_scan 46 = .ok (.invokevirtual 148, 3) := by decide +kernel
theorem d_Df_scan_49 : decode cd_Df_scan 49 = .ok (.aload_n 0, 1) := by decide +kernel
theorem d_Df_scan_50 : decode cd_Df_scan 50 = .ok (.getfield 25, 3) := by decide +kernel
theorem d_Df_scan_53 : decode cd_Df_scan 53 = .ok (.invokevirtual 152, 3) := by decide +kernel
theorem d_Df_scan_56 : decode cd_Df_scan 56 = .ok (.iconst 0, 1) := by decide +kernel
theorem d_Df_scan_57 : decode cd_Df_scan 57 = .ok (.istore 4, 2) := by decide +kernel
theorem d_Df_scan_59 : decode cd_Df_scan 59 = .ok (.iload 4, 2) := by decide +kernel
theorem d_Df_scan_61 : decode cd_Df_scan 61 = .ok (.aload_n 2, 1) := by decide +kernel
theorem d_Df_scan_62 : decode cd_Df_scan 62 = .ok (.getfield 101, 3) := by decide +kernel
theorem d_Df_scan_65 : decode cd_Df_scan 65 = .ok (.if_icmp .ge 68, 3) := by decide +kernel
theorem d_Df_scan_68 : decode cd_Df_scan 68 = .ok (.aload_n 0, 1) := by decide +kernel
theorem d_Df_scan_69 : decode cd_Df_scan 69 = .ok (.getfield 32, 3) := by decide +kernel
theorem d_Df_scan_72 : decode cd_Df_scan 72 = .ok (.aload_n 2, 1) := by decide +kernel
theorem d_Df_scan_73 : decode cd_Df_scan 73 = .ok (.iload 4, 2) := by decide +kernel
theorem d_Df_scan_75 : decode cd_Df_scan 75 = .ok (.aload_n 0, 1) := by decide +kernel
theorem d_Df_scan_76 : decode cd_Df_scan 76 = .ok (.getfield 25, 3) := by decide +kernel
theorem d_Df_scan_79 : decode cd_Df_scan 79 = .ok (.invokevirtual 155, 3) := by decide +kernel
theorem d_Df_scan_82 : decode cd_Df_scan 82 = .ok (.istore 5, 2) := by decide +kernel
theorem d_Df_scan_84 : decode cd_Df_scan 84 = .ok (.iload 5, 2) := by decide +kernel
theorem d_Df_scan_86 : decode cd_Df_scan 86 = .ok (.ifCond .lt 29, 3) := by decide +kernel
theorem d_Df_scan_89 : decode cd_Df_scan 89 = .ok (.aload_n 0, 1) := by decide +kernel
theorem d_Df_scan_90 : decode cd_Df_scan 90 = .ok (.getfield 39, 3) := by decide +kernel
theorem d_Df_scan_93 : decode cd_Df_scan 93 = .ok (.iconst 3, 1) := by decide +kernel
theorem d_Df_scan_94 : decode cd_Df_scan 94 = .ok (.iload 4, 2) := by decide +kernel
theorem d_Df_scan_96 : decode cd_Df_scan 96 = .ok (.iload_n 3, 1) := by decide +kernel
theorem d_Df_scan_97 : decode cd_Df_scan 97 = .ok (.iload 5, 2) := by decide +kernel
theorem d_Df_scan_99 : decode cd_Df_scan 99 = .ok (.iload_n 3, 1) := by decide +kernel
theorem d_Df_scan_100 : decode cd_Df_scan 100 = .ok (.imul, 1) := by decide +kernel
theorem d_Df_scan_101 : decode cd_Df_scan 101 = .ok (.invokevirtual 159, 3) := by decide +kernel
theorem d_Df_scan_104 : decode cd_Df_scan 104 = .ok (.iload 4, 2) := by decide +kernel
theorem d_Df_scan_106 : decode cd_Df_scan 106 = .ok (.iload_n 3, 1) := by decide +kernel
theorem d_Df_scan_107 : decode cd_Df_scan 107 = .ok (.iconst 1, 1) := by decide +kernel
theorem d_Df_scan_108 : decode cd_Df_scan 108 = .ok (.isub, 1) := by decide +kernel
theorem d_Df_scan_109 : decode cd_Df_scan 109 = .ok (.iadd, 1) := by decide +kernel
theorem d_Df_scan_110 : decode cd_Df_scan 110 = .ok (.istore 4, 2) := by decide +kernel
theorem d_Df_scan_112 : decode cd_Df_scan 112 = .ok (.goto 15, 3) := by decide +kernel
theorem d_Df_scan_115 : decode cd_Df_scan 115 = .ok (.aload_n 0, 1) := by decide +kernel
theorem d_Df_scan_116 : decode cd_Df_scan 116 = .ok (.getfield 39, 3) := by decide +kernel
theorem d_Df_scan_119 : decode cd_Df_scan 119 = .ok (.iconst 1, 1) := by decide +kernel
theorem d_Df_scan_120 : decode cd_Df_scan 120 = .ok (.iload 4, 2) := by decide +kernel
theorem d_Df_scan_122 : decode cd_Df_scan 122 = .ok (.iconst 1, 1) := by decide +kernel
theorem d_Df_scan_123 : decode cd_Df_scan 123 = .ok (.iconst (-1), 1) := by decide +kernel
theorem d_Df_scan_124 : decode cd_Df_scan 124 = .ok (.invokevirtual 159, 3) := by decide +kernel
theorem d_Df_scan_127 : decode cd_Df_scan 127 = .ok (.iinc 4 1, 3) := by decide +kernel
theorem d_Df_scan_130 : decode cd_Df_scan 130 = .ok (.goto (-71), 3) := by decide +kernel
theorem d_Df_scan_133 : decode cd_Df_scan 133 = .ok (.aload_n 0, 1) := by decide +kernel
theorem d_Df_scan_134 : decode cd_Df_scan 134 = .ok (.getfield 39, 3) := by decide +kernel
theorem d_Df_scan_137 : decode cd_Df_scan 137 = .ok (.getfield 163, 3) := by decide +kernel
theorem d_Df_scan_140 : decode cd_Df_scan 140 = .ok (.ireturn, 1) := by decide +kernel
theorem d_Df_differ_0 : decode cd_Df_differ 0 = .ok (.iload_n 1, 1) := by decide +kernel
theorem d_Df_differ_1 : decode cd_Df_differ 1 = .ok (.iconst 1, 1) := by decide +kernel
theorem d_Df_differ_2 : decode cd_Df_differ 2 = .ok (.if_icmp .lt 16, 3) := by decide +kernel
theorem d_Df_differ_5 : decode cd_Df_differ 5 = .ok (.iload_n 1, 1) := by decide +kernel
theorem d_Df_differ_6 : decode cd_Df_differ 6 = .ok (.bipush 16, 2) := by decide +kernel
theorem d_Df_differ_8 : decode cd_Df_differ 8 = .ok (.if_icmp .gt 10, 3) := by decide +kernel
theorem d_Df_differ_11 : decode cd_Df_differ 11 = .ok (.iload_n 2, 1) := by decide +kernel
theorem d_Df_differ_12 : decode cd_Df_differ 12 = .ok (.invokestatic 141, 3) := by decide +kernel
theorem d_Df_differ_15 : decode cd_Df_differ 15 = .ok (.ifCond .ne 5, 3) := by decide +kernel
theorem d_Df_differ_18 : decode cd_Df_differ 18 = .ok (.iconst (-1), 1) := by decide +kernel
theorem d_Df_differ_19 : decode cd_Df_differ 19 = .ok (.ireturn, 1) := by decide +kernel
theorem d_Df_differ_20 : decode cd_Df_differ 20 = .ok (.aload_n 0, 1) := by decide +kernel
theorem d_Df_differ_21 : decode cd_Df_differ 21 = .ok (.getfield 39, 3) := by decide +kernel
theorem d_Df_differ_24 : decode cd_Df_differ 24 = .ok (.iload_n 2, 1) := by decide +kernel
theorem d_Df_differ_25 : decode cd_Df_differ 25 = .ok (.aload_n 0, 1) := by decide +kernel
theorem d_Df_differ_26 : decode cd_Df_differ 26 = .ok (.getfield 9, 3) := by decide +kernel
theorem d_Df_differ_29 : decode cd_Df_differ 29 = .ok (.iconst 0, 1) := by decide +kernel
theorem d_Df_differ_30 : decode cd_Df_differ 30 = .ok (.aaload, 1) := by decide +kernel
theorem d_Df_differ_31 : decode cd_Df_differ 31 = .ok (.getfield 101, 3) := by decide +kernel
theorem d_Df_differ_34 : decode cd_Df_differ 34 = .ok (.invokevirtual 148, 3) := by decide +kernel
theorem d_Df_differ_37 : decode cd_Df_differ 37 = .ok (.aload_n 0, 1) := by decide +kernel
theorem d_Df_differ_38 : decode cd_Df_differ 38 = .ok (.getfield 46, 3) := by decide +kernel
theorem d_Df_differ_41 : decode cd_Df_differ 41 = .ok (.aload_n 0, 1) := by decide +kernel
theorem d_Df_differ_42 : decode cd_Df_differ 42 = .ok (.getfield 9, 3) := by decide +kernel
theorem d_Df_differ_45 : decode cd_Df_differ 45 = .ok (.iconst 0, 1) := by decide +kernel
theorem d_Df_differ_46 : decode cd_Df_differ 46 = .ok (.aaload, 1) := by decide +kernel
theorem d_Df_differ_47 : decode cd_Df_differ 47 = .ok (.iload_n 1, 1) := by decide +kernel
theorem d_Df_differ_48 : decode cd_Df_differ 48 = .ok (.invokevirtual 164, 3) := by decide +kernel
theorem d_Df_differ_51 : decode cd_Df_differ 51 = .ok (.iconst 0, 1) := by decide +kernel
theorem d_Df_differ_52 : decode cd_Df_differ 52 = .ok (.istore_n 3, 1) := by decide +kernel
theorem d_Df_differ_53 : decode cd_Df_differ 53 = .ok (.iload_n 3, 1) := by decide +kernel
theorem d_Df_differ_54 : decode cd_Df_differ 54 = .ok (.iload_n 2, 1) := by decide +kernel
theorem d_Df_differ_55 : decode cd_Df_differ 55 = .ok (.imul, 1) := by decide +kernel
theorem d_Df_differ_56 : decode cd_Df_differ 56 = .ok (.aload_n 0, 1) := by decide +kernel
theorem d_Df_differ_57 : decode cd_Df_differ 57 = .ok (.getfield 9, 3) := by decide +kernel
theorem d_Df_differ_60 : decode cd_Df_differ 60 = .ok (.iconst 1, 1) := by decide +kernel
theorem d_Df_differ_61 : decode cd_Df_differ 61 = .ok (.aaload, 1) := by decide +kernel
theorem d_Df_differ_62 : decode cd_Df_differ 62 = .ok (.getfield 101, 3) := by decide +kernel
theorem d_Df_differ_65 : decode cd_Df_differ 65 = .ok (.if_icmp .ge 38, 3) := by decide +kernel
theorem d_Df_differ_68 : decode cd_Df_differ 68 = .ok (.aload_n 0, 1) := by decide +kernel
theorem d_Df_differ_69 : decode cd_Df_differ 69 = .ok (.getfield 46, 3) := by decide +kernel
theorem d_Df_differ_72 : decode cd_Df_differ 72 = .ok (.aload_n 0, 1) := by decide +kernel
theorem d_Df_differ_73 : decode cd_Df_differ 73 = .ok (.getfield 9, 3) := by decide +kernel
theorem d_Df_differ_76 : decode cd_Df_differ 76 = .ok (.iconst 1, 1) := by decide +kernel
theorem d_Df_differ_77 : decode cd_Df_differ 77 = .ok (.aaload, 1) := by decide +kernel
theorem d_Df_differ_78 : decode cd_Df_differ 78 = .ok (.iload_n 3, 1) := by decide +kernel
theorem d_Df_differ_79 : decode cd_Df_differ 79 = .ok (.iload_n 2, 1) := by decide +kernel
theorem d_Df_differ_80 : decode cd_Df_differ 80 = .ok (.imul, 1) := by decide +kernel
theorem d_Df_differ_81 : decode cd_Df_differ 81 = .ok (.iload_n 2, 1) := by decide +kernel
theorem d_Df_differ_82 : decode cd_Df_differ 82 = .ok (.invokevirtual 167, 3) := by decide +kernel
theorem d_Df_differ_85 : decode cd_Df_differ 85 = .ok (.aload_n 0, 1) := by decide +kernel
theorem d_Df_differ_86 : decode cd_Df_differ 86 = .ok (.getfield 46, 3) := by decide +kernel
theorem d_Df_differ_89 : decode cd_Df_differ 89 = .ok (.aload_n 0, 1) := by decide +kernel
theorem d_Df_differ_90 : decode cd_Df_differ 90 = .ok (.getfield 39, 3) := by decide +kernel
theorem d_Df_differ_93 : decode cd_Df_differ 93 = .ok (.iload_n 3, 1) := by decide +kernel
theorem d_Df_differ_94 : decode cd_Df_differ 94 = .ok (.invokevirtual 171, 3) := by decide +kernel
theorem d_Df_differ_97 : decode cd_Df_differ 97 = .ok (.iinc 3 1, 3) := by decide +kernel
theorem d_Df_differ_100 : decode cd_Df_differ 100 = .ok (.goto (-47), 3) := by decide +kernel
theorem d_Df_differ_103 : decode cd_Df_differ 103 = .ok (.aload_n 0, 1) := by decide +kernel
theorem d_Df_differ_104 : decode cd_Df_differ 104 = .ok (.getfield 39, 3) := by decide +kernel
theorem d_Df_differ_107 : decode cd_Df_differ 107 = .ok (.getfield 163, 3) := by decide +kernel
theorem d_Df_differ_110 : decode cd_Df_differ 110 = .ok (.ireturn, 1) := by decide +kernel
theorem d_Df_instruction_0 : decode cd_Df_instruction 0 = .ok (.aload_n 0, 1) := by decide +kernel
theorem d_Df_instruction_1 : decode cd_Df_instruction 1 = .ok (.getfield 39, 3) := by decide +kernel
theorem d_Df_instruction_4 : decode cd_Df_instruction 4 = .ok (.getfield 175, 3) := by decide +kernel
theorem d_Df_instruction_7 : decode cd_Df_instruction 7 = .ok (.ifCond .eq 18, 3) := by decide +kernel
theorem d_Df_instruction_10 : decode cd_Df_instruction 10 = .ok (.iload_n 1, 1) := by decide +kernel
theorem d_Df_instruction_11 : decode cd_Df_instruction 11 = .ok (.ifCond .lt 14, 3) := by decide +kernel
theorem d_Df_instruction_14 : decode cd_Df_instruction 14 = .ok (.iload_n 1, 1) := by decide +kernel
theorem d_Df_instruction_15 : decode cd_Df_instruction 15 = .ok (.aload_n 0, 1) := by decide +kernel
theorem d_Df_instruction_16 : decode cd_Df_instruction 16 = .ok (.getfield 39, 3) := by decide +kernel
theorem d_Df_instruction_19 : decode cd_Df_instruction 19 = .ok (.getfield 163, 3) := by decide +kernel
theorem d_Df_instruction_22 : decode cd_Df_instruction 22 = .ok (.if_icmp .lt 5, 3) := by decide +kernel
theorem d_Df_instruction_25 : decode cd_Df_instruction 25 = .ok (.iconst (-1), 1) := by decide +kernel
theorem d_Df_instruction_26 : decode cd_Df_instruction 26 = .ok (.ireturn, 1) := by decide +kernel
theorem d_Df_instruction_27 : decode cd_Df_instruction 27 = .ok (.iload_n 2, 1) := by decide +kernel
theorem d_Df_instruction_28 : decode cd_Df_instruction 28 = .ok (.tableswitch 72 0 3 #[32, 42, 52, 62], 32) := by decide +kernel
theorem d_Df_instruction_60 : decode cd_Df_instruction 60 = .ok (.aload_n 0, 1) := by decide +kernel
theorem d_Df_instruction_61 : decode cd_Df_instruction 61 = .ok (.getfield 39, 3) := by decide +kernel
theorem d_Df_instruction_64 : decode cd_Df_instruction 64 = .ok (.getfield 176, 3) := by decide +kernel
theorem d_Df_instruction_67 : decode cd_Df_instruction 67 = .ok (.iload_n 1, 1) := by decide +kernel
theorem d_Df_instruction_68 : decode cd_Df_instruction 68 = .ok (.iaload, 1) := by decide +kernel
theorem d_Df_instruction_69 : decode cd_Df_instruction 69 = .ok (.ireturn, 1) := by decide +kernel
theorem d_Df_instruction_70 : decode cd_Df_instruction 70 = .ok (.aload_n 0, 1) := by decide +kernel
theorem d_Df_instruction_71 : decode cd_Df_instruction 71 = .ok (.getfield 39, 3) := by decide +kernel
theorem d_Df_instruction_74 : decode cd_Df_instruction 74 = .ok (.getfield 179, 3) := by decide +kernel
theorem d_Df_instruction_77 : decode cd_Df_instruction 77 = .ok (.iload_n 1, 1) := by decide +kernel
theorem d_Df_instruction_78 : decode cd_Df_instruction 78 = .ok (.iaload, 1) := by decide +kernel
theorem d_Df_instruction_79 : decode cd_Df_instruction 79 = .ok (.ireturn, 1) := by decide +kernel
theorem d_Df_instruction_80 : decode cd_Df_instruction 80 = .ok (.aload_n 0, 1) := by decide +kernel
theorem d_Df_instruction_81 : decode cd_Df_instruction 81 = .ok (.getfield 39, 3) := by decide +kernel
theorem d_Df_instruction_84 : decode cd_Df_instruction 84 = .ok (.getfield 182, 3) := by decide +kernel
theorem d_Df_instruction_87 : decode cd_Df_instruction 87 = .ok (.iload_n 1, 1) := by decide +kernel
theorem d_Df_instruction_88 : decode cd_Df_instruction 88 = .ok (.iaload, 1) := by decide +kernel
theorem d_Df_instruction_89 : decode cd_Df_instruction 89 = .ok (.ireturn, 1) := by decide +kernel
theorem d_Df_instruction_90 : decode cd_Df_instruction 90 = .ok (.aload_n 0, 1) := by decide +kernel
theorem d_Df_instruction_91 : decode cd_Df_instruction 91 = .ok (.getfield 39, 3) := by decide +kernel
theorem d_Df_instruction_94 : decode cd_Df_instruction 94 = .ok (.getfield 185, 3) := by decide +kernel
theorem d_Df_instruction_97 : decode cd_Df_instruction 97 = .ok (.iload_n 1, 1) := by decide +kernel
theorem d_Df_instruction_98 : decode cd_Df_instruction 98 = .ok (.iaload, 1) := by decide +kernel
theorem d_Df_instruction_99 : decode cd_Df_instruction 99 = .ok (.ireturn, 1) := by decide +kernel
theorem d_Df_instruction_100 : decode cd_Df_instruction 100 = .ok (.iconst (-1), 1) := by decide +kernel
theorem d_Df_instruction_101 : decode cd_Df_instruction 101 = .ok (.ireturn, 1) := by decide +kernel
theorem d_Df_encode_0 : decode cd_Df_encode 0 = .ok (.aload_n 0, 1) := by decide +kernel
theorem d_Df_encode_1 : decode cd_Df_encode 1 = .ok (.getfield 39, 3) := by decide +kernel
theorem d_Df_encode_4 : decode cd_Df_encode 4 = .ok (.getfield 175, 3) := by decide +kernel
theorem d_Df_encode_7 : decode cd_Df_encode 7 = .ok (.ifCond .ne 5, 3) := by decide +kernel
theorem d_Df_encode_10 : decode cd_Df_encode 10 = .ok (.iconst (-1), 1) := by decide +kernel
theorem d_Df_encode_11 : decode cd_Df_encode 11 = .ok (.ireturn, 1) := by decide +kernel
theorem d_Df_encode_12 : decode cd_Df_encode 12 = .ok (.aload_n 0, 1) := by decide +kernel
theorem d_Df_encode_13 : decode cd_Df_encode 13 = .ok (.getfield 53, 3) := by decide +kernel
theorem d_Df_encode_16 : decode cd_Df_encode 16 = .ok (.invokevirtual 188, 3) := by decide +kernel
theorem d_Df_encode_19 : decode cd_Df_encode 19 = .ok (.iconst 0, 1) := by decide +kernel
theorem d_Df_encode_20 : decode cd_Df_encode 20 = .ok (.istore_n 2, 1) := by decide +kernel
theorem d_Df_encode_21 : decode cd_Df_encode 21 = .ok (.iload_n 2, 1) := by decide +kernel
theorem d_Df_encode_22 : decode cd_Df_encode 22 = .ok (.aload_n 0, 1) := by decide +kernel
theorem d_Df_encode_23 : decode cd_Df_encode 23 = .ok (.getfield 39, 3) := by decide +kernel
theorem d_Df_encode_26 : decode cd_Df_encode 26 = .ok (.getfield 190, 3) := by decide +kernel
theorem d_Df_encode_29 : decode cd_Df_encode 29 = .ok (.imul, 1) := by decide +kernel
theorem d_Df_encode_30 : decode cd_Df_encode 30 = .ok (.aload_n 0, 1) := by decide +kernel
theorem d_Df_encode_31 : decode cd_Df_encode 31 = .ok (.getfield 9, 3) := by decide +kernel
theorem d_Df_encode_34 : decode cd_Df_encode 34 = .ok (.iconst 1, 1) := by decide +kernel
theorem d_Df_encode_35 : decode cd_Df_encode 35 = .ok (.aaload, 1) := by decide +kernel
theorem d_Df_encode_36 : decode cd_Df_encode 36 = .ok (.getfield 101, 3) := by decide +kernel
theorem d_Df_encode_39 : decode cd_Df_encode 39 = .ok (.if_icmp .ge 28, 3) := by decide +kernel
theorem d_Df_encode_42 : decode cd_Df_encode 42 = .ok (.aload_n 0, 1) := by decide +kernel
theorem d_Df_encode_43 : decode cd_Df_encode 43 = .ok (.getfield 53, 3) := by decide +kernel
theorem d_Df_encode_46 : decode cd_Df_encode 46 = .ok (.aload_n 0, 1) := by decide +kernel
theorem d_Df_encode_47 : decode cd_Df_encode 47 = .ok (.getfield 39, 3) := by decide +kernel
theorem d_Df_encode_50 : decode cd_Df_encode 50 = .ok (.aload_n 0, 1) := by decide +kernel
theorem d_Df_encode_51 : decode cd_Df_encode 51 = .ok (.getfield 9, 3) := by decide +kernel
theorem d_Df_encode_54 : decode cd_Df_encode 54 = .ok (.iconst 1, 1) := by decide +kernel
theorem d_Df_encode_55 : decode cd_Df_encode 55 = .ok (.aaload, 1) := by decide +kernel
theorem d_Df_encode_56 : decode cd_Df_encode 56 = .ok (.iload_n 2, 1) := by decide +kernel
theorem d_Df_encode_57 : decode cd_Df_encode 57 = .ok (.iload_n 1, 1) := by decide +kernel
theorem d_Df_encode_58 : decode cd_Df_encode 58 = .ok (.invokevirtual 191, 3) := by decide +kernel
theorem d_Df_encode_61 : decode cd_Df_encode 61 = .ok (.iinc 2 1, 3) := by decide +kernel
theorem d_Df_encode_64 : decode cd_Df_encode 64 = .ok (.goto (-43), 3) := by decide +kernel
theorem d_Df_encode_67 : decode cd_Df_encode 67 = .ok (.aload_n 0, 1) := by decide +kernel
theorem d_Df_encode_68 : decode cd_Df_encode 68 = .ok (.getfield 53, 3) := by decide +kernel
theorem d_Df_encode_71 : decode cd_Df_encode 71 = .ok (.getfield 195, 3) := by decide +kernel
theorem d_Df_encode_74 : decode cd_Df_encode 74 = .ok (.getfield 101, 3) := by decide +kernel
theorem d_Df_encode_77 : decode cd_Df_encode 77 = .ok (.sipush 700, 3) := by decide +kernel
theorem d_Df_encode_80 : decode cd_Df_encode 80 = .ok (.if_icmp .le 6, 3) := by decide +kernel
theorem d_Df_encode_83 : decode cd_Df_encode 83 = .ok (.bipush (-4), 2) := by decide +kernel
theorem d_Df_encode_85 : decode cd_Df_encode 85 = .ok (.ireturn, 1) := by decide +kernel
theorem d_Df_encode_86 : decode cd_Df_encode 86 = .ok (.aload_n 0, 1) := by decide +kernel
theorem d_Df_encode_87 : decode cd_Df_encode 87 = .ok (.getfield 9, 3) := by decide +kernel
theorem d_Df_encode_90 : decode cd_Df_encode 90 = .ok (.iconst 2, 1) := by decide +kernel
theorem d_Df_encode_91 : decode cd_Df_encode 91 = .ok (.aaload, 1) := by decide +kernel
theorem d_Df_encode_92 : decode cd_Df_encode 92 = .ok (.aload_n 0, 1) := by decide +kernel
theorem d_Df_encode_93 : decode cd_Df_encode 93 = .ok (.getfield 53, 3) := by decide +kernel
theorem d_Df_encode_96 : decode cd_Df_encode 96 = .ok (.getfield 195, 3) := by decide +kernel
theorem d_Df_encode_99 : decode cd_Df_encode 99 = .ok (.invokevirtual 104, 3) := by decide +kernel
theorem d_Df_encode_102 : decode cd_Df_encode 102 = .ok (.aload_n 0, 1) := by decide +kernel
theorem d_Df_encode_103 : decode cd_Df_encode 103 = .ok (.getfield 9, 3) := by decide +kernel
theorem d_Df_encode_106 : decode cd_Df_encode 106 = .ok (.iconst 2, 1) := by decide +kernel
theorem d_Df_encode_107 : decode cd_Df_encode 107 = .ok (.aaload, 1) := by decide +kernel
theorem d_Df_encode_108 : decode cd_Df_encode 108 = .ok (.getfield 101, 3) := by decide +kernel
theorem d_Df_encode_111 : decode cd_Df_encode 111 = .ok (.ireturn, 1) := by decide +kernel
theorem d_Df_decode_0 : decode cd_Df_decode 0 = .ok (.aload_n 0, 1) := by decide +kernel
theorem d_Df_decode_1 : decode cd_Df_decode 1 = .ok (.getfield 60, 3) := by decide +kernel
theorem d_Df_decode_4 : decode cd_Df_decode 4 = .ok (.aload_n 0, 1) := by decide +kernel
theorem d_Df_decode_5 : decode cd_Df_decode 5 = .ok (.getfield 9, 3) := by decide +kernel
theorem d_Df_decode_8 : decode cd_Df_decode 8 = .ok (.iconst 2, 1) := by decide +kernel
theorem d_Df_decode_9 : decode cd_Df_decode 9 = .ok (.aaload, 1) := by decide +kernel
theorem d_Df_decode_10 : decode cd_Df_decode 10 = .ok (.invokevirtual 199, 3) := by decide +kernel
theorem d_Df_decode_13 : decode cd_Df_decode 13 = .ok (.istore_n 1, 1) := by decide +kernel
theorem d_Df_decode_14 : decode cd_Df_decode 14 = .ok (.iload_n 1, 1) := by decide +kernel
theorem d_Df_decode_15 : decode cd_Df_decode 15 = .ok (.ifCond .ne 40, 3) := by decide +kernel
theorem d_Df_decode_18 : decode cd_Df_decode 18 = .ok (.aload_n 0, 1) := by decide +kernel
theorem d_Df_decode_19 : decode cd_Df_decode 19 = .ok (.getfield 60, 3) := by decide +kernel
theorem d_Df_decode_22 : decode cd_Df_decode 22 = .ok (.invokevirtual 202, 3) := by decide +kernel
theorem d_Df_decode_25 : decode cd_Df_decode 25 = .ok (.ifCond .eq 30, 3) := by decide +kernel
theorem d_Df_decode_28 : decode cd_Df_decode 28 = .ok (.aload_n 0, 1) := by decide +kernel
theorem d_Df_decode_29 : decode cd_Df_decode 29 = .ok (.getfield 60, 3) := by decide +kernel
theorem d_Df_decode_32 : decode cd_Df_decode 32 = .ok (.invokevirtual 206, 3) := by decide +kernel
theorem d_Df_decode_35 : decode cd_Df_decode 35 = .ok (.istore_n 1, 1) := by decide +kernel
theorem d_Df_decode_36 : decode cd_Df_decode 36 = .ok (.iload_n 1, 1) := by decide +kernel
theorem d_Df_decode_37 : decode cd_Df_decode 37 = .ok (.ifCond .ne 18, 3) := by decide +kernel
theorem d_Df_decode_40 : decode cd_Df_decode 40 = .ok (.aload_n 0, 1) := by decide +kernel
theorem d_Df_decode_41 : decode cd_Df_decode 41 = .ok (.getfield 60, 3) := by decide +kernel
theorem d_Df_decode_44 : decode cd_Df_decode 44 = .ok (.aload_n 0, 1) := by decide +kernel
theorem d_Df_decode_45 : decode cd_Df_decode 45 = .ok (.getfield 60, 3) := by decide +kernel
theorem d_Df_decode_48 : decode cd_Df_decode 48 = .ok (.invokevirtual 209, 3) := by decide +kernel
theorem d_Df_decode_51 : decode cd_Df_decode 51 = .ok (.invokevirtual 212, 3) := by decide +kernel
theorem d_Df_decode_54 : decode cd_Df_decode 54 = .ok (.istore_n 1, 1) := by decide +kernel
theorem d_Df_decode_55 : decode cd_Df_decode 55 = .ok (.iload_n 1, 1) := by decide +kernel
theorem d_Df_decode_56 : decode cd_Df_decode 56 = .ok (.ifCond .ne 24, 3) := by decide +kernel
theorem d_Df_decode_59 : decode cd_Df_decode 59 = .ok (.aload_n 0, 1) := by decide +kernel
theorem d_Df_decode_60 : decode cd_Df_decode 60 = .ok (.getfield 60, 3) := by decide +kernel
theorem d_Df_decode_63 : decode cd_Df_decode 63 = .ok (.aload_n 0, 1) := by decide +kernel
theorem d_Df_decode_64 : decode cd_Df_decode 64 = .ok (.getfield 9, 3) := by decide +kernel
theorem d_Df_decode_67 : decode cd_Df_decode 67 = .ok (.iconst 0, 1) := by decide +kernel
theorem d_Df_decode_68 : decode cd_Df_decode 68 = .ok (.aaload, 1) := by decide +kernel
theorem d_Df_decode_69 : decode cd_Df_decode 69 = .ok (.invokevirtual 216, 3) := by decide +kernel
theorem d_Df_decode_72 : decode cd_Df_decode 72 = .ok (.aload_n 0, 1) := by decide +kernel
theorem d_Df_decode_73 : decode cd_Df_decode 73 = .ok (.getfield 60, 3) := by decide +kernel
theorem d_Df_decode_76 : decode cd_Df_decode 76 = .ok (.invokevirtual 209, 3) := by decide +kernel
theorem d_Df_decode_79 : decode cd_Df_decode 79 = .ok (.istore_n 1, 1) := by decide +kernel
theorem d_Df_decode_80 : decode cd_Df_decode 80 = .ok (.iload_n 1, 1) := by decide +kernel
theorem d_Df_decode_81 : decode cd_Df_decode 81 = .ok (.ifCond .eq 5, 3) := by decide +kernel
theorem d_Df_decode_84 : decode cd_Df_decode 84 = .ok (.iload_n 1, 1) := by decide +kernel
theorem d_Df_decode_85 : decode cd_Df_decode 85 = .ok (.ireturn, 1) := by decide +kernel
theorem d_Df_decode_86 : decode cd_Df_decode 86 = .ok (.aload_n 0, 1) := by decide +kernel
theorem d_Df_decode_87 : decode cd_Df_decode 87 = .ok (.getfield 9, 3) := by decide +kernel
theorem d_Df_decode_90 : decode cd_Df_decode 90 = .ok (.iconst 3, 1) := by decide +kernel
theorem d_Df_decode_91 : decode cd_Df_decode 91 = .ok (.aaload, 1) := by decide +kernel
theorem d_Df_decode_92 : decode cd_Df_decode 92 = .ok (.aload_n 0, 1) := by decide +kernel
theorem d_Df_decode_93 : decode cd_Df_decode 93 = .ok (.getfield 60, 3) := by decide +kernel
theorem d_Df_decode_96 : decode cd_Df_decode 96 = .ok (.getfield 219, 3) := by decide +kernel
theorem d_Df_decode_99 : decode cd_Df_decode 99 = .ok (.invokevirtual 104, 3) := by decide +kernel
theorem d_Df_decode_102 : decode cd_Df_decode 102 = .ok (.aload_n 0, 1) := by decide +kernel
theorem d_Df_decode_103 : decode cd_Df_decode 103 = .ok (.getfield 9, 3) := by decide +kernel
theorem d_Df_decode_106 : decode cd_Df_decode 106 = .ok (.iconst 3, 1) := by decide +kernel
theorem d_Df_decode_107 : decode cd_Df_decode 107 = .ok (.aaload, 1) := by decide +kernel
theorem d_Df_decode_108 : decode cd_Df_decode 108 = .ok (.getfield 101, 3) := by decide +kernel
theorem d_Df_decode_111 : decode cd_Df_decode 111 = .ok (.ireturn, 1) := by decide +kernel
theorem d_Df_begin_0 : decode cd_Df_begin 0 = .ok (.iload_n 1, 1) := by decide +kernel
theorem d_Df_begin_1 : decode cd_Df_begin 1 = .ok (.invokestatic 129, 3) := by decide +kernel
theorem d_Df_begin_4 : decode cd_Df_begin 4 = .ok (.ifCond .eq 10, 3) := by decide +kernel
theorem d_Df_begin_7 : decode cd_Df_begin 7 = .ok (.iload_n 2, 1) := by decide +kernel
theorem d_Df_begin_8 : decode cd_Df_begin 8 = .ok (.invokestatic 141, 3) := by decide +kernel
theorem d_Df_begin_11 : decode cd_Df_begin 11 = .ok (.ifCond .ne 5, 3) := by decide +kernel
theorem d_Df_begin_14 : decode cd_Df_begin 14 = .ok (.iconst 0, 1) := by decide +kernel
theorem d_Df_begin_15 : decode cd_Df_begin 15 = .ok (.ireturn, 1) := by decide +kernel
theorem d_Df_begin_16 : decode cd_Df_begin 16 = .ok (.aload_n 0, 1) := by decide +kernel
theorem d_Df_begin_17 : decode cd_Df_begin 17 = .ok (.iload_n 1, 1) := by decide +kernel
theorem d_Df_begin_18 : decode cd_Df_begin 18 = .ok (.putfield 64, 3) := by decide +kernel
theorem d_Df_begin_21 : decode cd_Df_begin 21 = .ok (.aload_n 0, 1) := by decide +kernel
theorem d_Df_begin_22 : decode cd_Df_begin 22 = .ok (.iload_n 2, 1) := by decide +kernel
theorem d_Df_begin_23 : decode cd_Df_begin 23 = .ok (.putfield 68, 3) := by decide +kernel
theorem d_Df_begin_26 : decode cd_Df_begin 26 = .ok (.aload_n 0, 1) := by decide +kernel
theorem d_Df_begin_27 : decode cd_Df_begin 27 = .ok (.iconst 0, 1) := by decide +kernel
theorem d_Df_begin_28 : decode cd_Df_begin 28 = .ok (.putfield 71, 3) := by decide +kernel
theorem d_Df_begin_31 : decode cd_Df_begin 31 = .ok (.iconst 1, 1) := by decide +kernel
theorem d_Df_begin_32 : decode cd_Df_begin 32 = .ok (.ireturn, 1) := by decide +kernel
theorem d_Df_step_0 : decode cd_Df_step 0 = .ok (.aload_n 0, 1) := by decide +kernel
theorem d_Df_step_1 : decode cd_Df_step 1 = .ok (.getfield 71, 3) := by decide +kernel
theorem d_Df_step_4 : decode cd_Df_step 4 = .ok (.ifCond .ne 17, 3) := by decide +kernel
theorem d_Df_step_7 : decode cd_Df_step 7 = .ok (.aload_n 0, 1) := by decide +kernel
theorem d_Df_step_8 : decode cd_Df_step 8 = .ok (.iconst 1, 1) := by decide +kernel
theorem d_Df_step_9 : decode cd_Df_step 9 = .ok (.putfield 71, 3) := by decide +kernel
theorem d_Df_step_12 : decode cd_Df_step 12 = .ok (.aload_n 0, 1) := by decide +kernel
theorem d_Df_step_13 : decode cd_Df_step 13 = .ok (.aload_n 0, 1) := by decide +kernel
theorem d_Df_step_14 : decode cd_Df_step 14 = .ok (.getfield 64, 3) := by decide +kernel
theorem d_Df_step_17 : decode cd_Df_step 17 = .ok (.invokevirtual 222, 3) := by decide +kernel
theorem d_Df_step_20 : decode cd_Df_step 20 = .ok (.ireturn, 1) := by decide +kernel
theorem d_Df_step_21 : decode cd_Df_step 21 = .ok (.aload_n 0, 1) := by decide +kernel
theorem d_Df_step_22 : decode cd_Df_step 22 = .ok (.getfield 71, 3) := by decide +kernel
theorem d_Df_step_25 : decode cd_Df_step 25 = .ok (.iconst 1, 1) := by decide +kernel
theorem d_Df_step_26 : decode cd_Df_step 26 = .ok (.if_icmp .ne 57, 3) := by decide +kernel
theorem d_Df_step_29 : decode cd_Df_step 29 = .ok (.aload_n 0, 1) := by decide +kernel
theorem d_Df_step_30 : decode cd_Df_step 30 = .ok (.aload_n 0, 1) := by decide +kernel
theorem d_Df_step_31 : decode cd_Df_step 31 = .ok (.getfield 68, 3) := by decide +kernel
theorem d_Df_step_34 : decode cd_Df_step 34 = .ok (.invokevirtual 225, 3) := by decide +kernel
theorem d_Df_step_37 : decode cd_Df_step 37 = .ok (.istore_n 1, 1) := by decide +kernel
theorem d_Df_step_38 : decode cd_Df_step 38 = .ok (.iload_n 1, 1) := by decide +kernel
theorem d_Df_step_39 : decode cd_Df_step 39 = .ok (.ifCond .lt 9, 3) := by decide +kernel
theorem d_Df_step_42 : decode cd_Df_step 42 = .ok (.aload_n 0, 1) := by decide +kernel
theorem d_Df_step_43 : decode cd_Df_step 43 = .ok (.iconst 1, 1) := by decide +kernel
theorem d_Df_step_44 : decode cd_Df_step 44 = .ok (.invokevirtual 228, 3) := by decide +kernel
theorem d_Df_step_47 : decode cd_Df_step 47 = .ok (.istore_n 1, 1) := by decide +kernel
theorem d_Df_step_48 : decode cd_Df_step 48 = .ok (.aload_n 0, 1) := by decide +kernel
theorem d_Df_step_49 : decode cd_Df_step 49 = .ok (.aload_n 0, 1) := by decide +kernel
theorem d_Df_step_50 : decode cd_Df_step 50 = .ok (.iconst 1, 1) := by decide +kernel
theorem d_Df_step_51 : decode cd_Df_step 51 = .ok (.iconst 0, 1) := by decide +kernel
theorem d_Df_step_52 : decode cd_Df_step 52 = .ok (.invokevirtual 232, 3) := by decide +kernel
theorem d_Df_step_55 : decode cd_Df_step 55 = .ok (.putfield 236, 3) := by decide +kernel
theorem d_Df_step_58 : decode cd_Df_step 58 = .ok (.aload_n 0, 1) := by decide +kernel
theorem d_Df_step_59 : decode cd_Df_step 59 = .ok (.aload_n 0, 1) := by decide +kernel
theorem d_Df_step_60 : decode cd_Df_step 60 = .ok (.iconst 1, 1) := by decide +kernel
theorem d_Df_step_61 : decode cd_Df_step 61 = .ok (.iconst 1, 1) := by decide +kernel
theorem d_Df_step_62 : decode cd_Df_step 62 = .ok (.invokevirtual 232, 3) := by decide +kernel
theorem d_Df_step_65 : decode cd_Df_step 65 = .ok (.putfield 240, 3) := by decide +kernel
theorem d_Df_step_68 : decode cd_Df_step 68 = .ok (.aload_n 0, 1) := by decide +kernel
theorem d_Df_step_69 : decode cd_Df_step 69 = .ok (.iload_n 1, 1) := by decide +kernel
theorem d_Df_step_70 : decode cd_Df_step 70 = .ok (.ifCond .ge 7, 3) := by decide +kernel
theorem d_Df_step_73 : decode cd_Df_step 73 = .ok (.iconst 0, 1) := by decide +kernel
theorem d_Df_step_74 : decode cd_Df_step 74 = .ok (.goto 4, 3) := by decide +kernel
theorem d_Df_step_77 : decode cd_Df_step 77 = .ok (.iconst 2, 1) := by decide +kernel
theorem d_Df_step_78 : decode cd_Df_step 78 = .ok (.putfield 71, 3) := by decide +kernel
theorem d_Df_step_81 : decode cd_Df_step 81 = .ok (.iload_n 1, 1) := by decide +kernel
theorem d_Df_step_82 : decode cd_Df_step 82 = .ok (.ireturn, 1) := by decide +kernel
theorem d_Df_step_83 : decode cd_Df_step 83 = .ok (.aload_n 0, 1) := by decide +kernel
theorem d_Df_step_84 : decode cd_Df_step 84 = .ok (.iconst 0, 1) := by decide +kernel
theorem d_Df_step_85 : decode cd_Df_step 85 = .ok (.putfield 71, 3) := by decide +kernel
theorem d_Df_step_88 : decode cd_Df_step 88 = .ok (.aload_n 0, 1) := by decide +kernel
theorem d_Df_step_89 : decode cd_Df_step 89 = .ok (.invokevirtual 243, 3) := by decide +kernel
theorem d_Df_step_92 : decode cd_Df_step 92 = .ok (.istore_n 1, 1) := by decide +kernel
theorem d_Df_step_93 : decode cd_Df_step 93 = .ok (.aload_n 0, 1) := by decide +kernel
theorem d_Df_step_94 : decode cd_Df_step 94 = .ok (.iconst 3, 1) := by decide +kernel
theorem d_Df_step_95 : decode cd_Df_step 95 = .ok (.iconst 0, 1) := by decide +kernel
theorem d_Df_step_96 : decode cd_Df_step 96 = .ok (.invokevirtual 232, 3) := by decide +kernel
theorem d_Df_step_99 : decode cd_Df_step 99 = .ok (.aload_n 0, 1) := by decide +kernel
theorem d_Df_step_100 : decode cd_Df_step 100 = .ok (.getfield 236, 3) := by decide +kernel
theorem d_Df_step_103 : decode cd_Df_step 103 = .ok (.lcmp, 1) := by decide +kernel
theorem d_Df_step_104 : decode cd_Df_step 104 = .ok (.ifCond .ne 21, 3) := by decide +kernel
theorem d_Df_step_107 : decode cd_Df_step 107 = .ok (.aload_n 0, 1) := by decide +kernel
theorem d_Df_step_108 : decode cd_Df_step 108 = .ok (.iconst 3, 1) := by decide +kernel
theorem d_Df_step_109 : decode cd_Df_step 109 = .ok (.iconst 1, 1) := by decide +kernel
theorem d_Df_step_110 : decode cd_Df_step 110 = .ok (.invokevirtual 232, 3) := by decide +kernel
theorem d_Df_step_113 : decode cd_Df_step 113 = .ok (.aload_n 0, 1) := by decide +kernel
theorem d_Df_step_114 : decode cd_Df_step 114 = .ok (.getfield 240, 3) := by decide +kernel
theorem d_Df_step_117 : decode cd_Df_step 117 = .ok (.lcmp, 1) := by decide +kernel
theorem d_Df_step_118 : decode cd_Df_step 118 = .ok (.ifCond .ne 7, 3) := by decide +kernel
theorem d_Df_step_121 : decode cd_Df_step 121 = .ok (.iconst 1, 1) := by decide +kernel
theorem d_Df_step_122 : decode cd_Df_step 122 = .ok (.goto 4, 3) := by decide +kernel
theorem d_Df_step_125 : decode cd_Df_step 125 = .ok (.iconst 0, 1) := by decide +kernel
theorem d_Df_step_126 : decode cd_Df_step 126 = .ok (.istore_n 2, 1) := by decide +kernel
theorem d_Df_step_127 : decode cd_Df_step 127 = .ok (.iload_n 1, 1) := by decide +kernel
theorem d_Df_step_128 : decode cd_Df_step 128 = .ok (.ifCond .lt 12, 3) := by decide +kernel
theorem d_Df_step_131 : decode cd_Df_step 131 = .ok (.iload_n 2, 1) := by decide +kernel
theorem d_Df_step_132 : decode cd_Df_step 132 = .ok (.ifCond .ne 8, 3) := by decide +kernel
theorem d_Df_step_135 : decode cd_Df_step 135 = .ok (.bipush (-7), 2) := by decide +kernel
theorem d_Df_step_137 : decode cd_Df_step 137 = .ok (.goto 4, 3) := by decide +kernel
theorem d_Df_step_140 : decode cd_Df_step 140 = .ok (.iload_n 1, 1) := by decide +kernel
theorem d_Df_step_141 : decode cd_Df_step 141 = .ok (.ireturn, 1) := by decide +kernel
theorem d_Df_giveUpPlanOf_0 : decode cd_Df_giveUpPlanOf 0 = .ok (.iload_n 1, 1) := by decide +kernel
theorem d_Df_giveUpPlanOf_1 : decode cd_Df_giveUpPlanOf 1 = .ok (.iconst 1, 1) := by decide +kernel
theorem d_Df_giveUpPlanOf_2 : decode cd_Df_giveUpPlanOf 2 = .ok (.if_icmp .ne 11, 3) := by decide +kernel
theorem d_Df_giveUpPlanOf_5 : decode cd_Df_giveUpPlanOf 5 = .ok (.aload_n 0, 1) := by decide +kernel
theorem d_Df_giveUpPlanOf_6 : decode cd_Df_giveUpPlanOf 6 = .ok (.getfield 39, 3) := by decide +kernel
theorem d_Df_giveUpPlanOf_9 : decode cd_Df_giveUpPlanOf 9 = .ok (.iconst 0, 1) := by decide +kernel
theorem d_Df_giveUpPlanOf_10 : decode cd_Df_giveUpPlanOf 10 = .ok (.putfield 175, 3) := by decide +kernel
theorem d_Df_giveUpPlanOf_13 : decode cd_Df_giveUpPlanOf 13 = .ok (.return_, 1) := by decide +kernel
theorem d_Df_isFile_0 : decode cd_Df_isFile 0 = .ok (.iload_n 0, 1) := by decide +kernel
theorem d_Df_isFile_1 : decode cd_Df_isFile 1 = .ok (.ifCond .lt 12, 3) := by decide +kernel
theorem d_Df_isFile_4 : decode cd_Df_isFile 4 = .ok (.iload_n 0, 1) := by decide +kernel
theorem d_Df_isFile_5 : decode cd_Df_isFile 5 = .ok (.iconst 3, 1) := by decide +kernel
theorem d_Df_isFile_6 : decode cd_Df_isFile 6 = .ok (.if_icmp .gt 7, 3) := by decide +kernel
theorem d_Df_isFile_9 : decode cd_Df_isFile 9 = .ok (.iconst 1, 1) := by decide +kernel
theorem d_Df_isFile_10 : decode cd_Df_isFile 10 = .ok (.goto 4, 3) := by decide +kernel
theorem d_Df_isFile_13 : decode cd_Df_isFile 13 = .ok (.iconst 0, 1) := by decide +kernel
theorem d_Df_isFile_14 : decode cd_Df_isFile 14 = .ok (.ireturn, 1) := by decide +kernel
theorem d_Df_isWritable_0 : decode cd_Df_isWritable 0 = .ok (.iload_n 0, 1) := by decide +kernel
theorem d_Df_isWritable_1 : decode cd_Df_isWritable 1 = .ok (.ifCond .lt 12, 3) := by decide +kernel
theorem d_Df_isWritable_4 : decode cd_Df_isWritable 4 = .ok (.iload_n 0, 1) := by decide +kernel
theorem d_Df_isWritable_5 : decode cd_Df_isWritable 5 = .ok (.iconst 2, 1) := by decide +kernel
theorem d_Df_isWritable_6 : decode cd_Df_isWritable 6 = .ok (.if_icmp .gt 7, 3) := by decide +kernel
theorem d_Df_isWritable_9 : decode cd_Df_isWritable 9 = .ok (.iconst 1, 1) := by decide +kernel
theorem d_Df_isWritable_10 : decode cd_Df_isWritable 10 = .ok (.goto 4, 3) := by decide +kernel
theorem d_Df_isWritable_13 : decode cd_Df_isWritable 13 = .ok (.iconst 0, 1) := by decide +kernel
theorem d_Df_isWritable_14 : decode cd_Df_isWritable 14 = .ok (.ireturn, 1) := by decide +kernel
theorem d_Df_isBlock_0 : decode cd_Df_isBlock 0 = .ok (.iload_n 0, 1) := by decide +kernel
theorem d_Df_isBlock_1 : decode cd_Df_isBlock 1 = .ok (.iconst 4, 1) := by decide +kernel
theorem d_Df_isBlock_2 : decode cd_Df_isBlock 2 = .ok (.if_icmp .lt 13, 3) := by decide +kernel
theorem d_Df_isBlock_5 : decode cd_Df_isBlock 5 = .ok (.iload_n 0, 1) := by decide +kernel
theorem d_Df_isBlock_6 : decode cd_Df_isBlock 6 = .ok (.bipush 64, 2) := by decide +kernel
theorem d_Df_isBlock_8 : decode cd_Df_isBlock 8 = .ok (.if_icmp .gt 7, 3) := by decide +kernel
theorem d_Df_isBlock_11 : decode cd_Df_isBlock 11 = .ok (.iconst 1, 1) := by decide +kernel
theorem d_Df_isBlock_12 : decode cd_Df_isBlock 12 = .ok (.goto 4, 3) := by decide +kernel
theorem d_Df_isBlock_15 : decode cd_Df_isBlock 15 = .ok (.iconst 0, 1) := by decide +kernel
theorem d_Df_isBlock_16 : decode cd_Df_isBlock 16 = .ok (.ireturn, 1) := by decide +kernel
theorem d_Df_isWindow_0 : decode cd_Df_isWindow 0 = .ok (.iload_n 0, 1) := by decide +kernel
theorem d_Df_isWindow_1 : decode cd_Df_isWindow 1 = .ok (.bipush 16, 2) := by decide +kernel
theorem d_Df_isWindow_3 : decode cd_Df_isWindow 3 = .ok (.if_icmp .lt 14, 3) := by decide +kernel
theorem d_Df_isWindow_6 : decode cd_Df_isWindow 6 = .ok (.iload_n 0, 1) := by decide +kernel
theorem d_Df_isWindow_7 : decode cd_Df_isWindow 7 = .ok (.sipush 256, 3) := by decide +kernel
theorem d_Df_isWindow_10 : decode cd_Df_isWindow 10 = .ok (.if_icmp .gt 7, 3) := by decide +kernel
theorem d_Df_isWindow_13 : decode cd_Df_isWindow 13 = .ok (.iconst 1, 1) := by decide +kernel
theorem d_Df_isWindow_14 : decode cd_Df_isWindow 14 = .ok (.goto 4, 3) := by decide +kernel
theorem d_Df_isWindow_17 : decode cd_Df_isWindow 17 = .ok (.iconst 0, 1) := by decide +kernel
theorem d_Df_isWindow_18 : decode cd_Df_isWindow 18 = .ok (.ireturn, 1) := by decide +kernel
theorem d_Df_checkOf_0 : decode cd_Df_checkOf 0 = .ok (.iconst 1, 1) := by decide +kernel
theorem d_Df_checkOf_1 : decode cd_Df_checkOf 1 = .ok (.istore_n 3, 1) := by decide +kernel
theorem d_Df_checkOf_2 : decode cd_Df_checkOf 2 = .ok (.iconst 0, 1) := by decide +kernel
theorem d_Df_checkOf_3 : decode cd_Df_checkOf 3 = .ok (.istore 4, 2) := by decide +kernel
theorem d_Df_checkOf_5 : decode cd_Df_checkOf 5 = .ok (.iload_n 1, 1) := by decide +kernel
theorem d_Df_checkOf_6 : decode cd_Df_checkOf 6 = .ok (.istore 5, 2) := by decide +kernel
theorem d_Df_checkOf_8 : decode cd_Df_checkOf 8 = .ok (.iload 5, 2) := by decide +kernel
theorem d_Df_checkOf_10 : decode cd_Df_checkOf 10 = .ok (.iload_n 1, 1) := by decide +kernel
theorem d_Df_checkOf_11 : decode cd_Df_checkOf 11 = .ok (.iload_n 2, 1) := by decide +kernel
theorem d_Df_checkOf_12 : decode cd_Df_checkOf 12 = .ok (.iadd, 1) := by decide +kernel
theorem d_Df_checkOf_13 : decode cd_Df_checkOf 13 = .ok (.if_icmp .ge 28, 3) := by decide +kernel
theorem d_Df_checkOf_16 : decode cd_Df_checkOf 16 = .ok (.iload_n 3, 1) := by decide +kernel
theorem d_Df_checkOf_17 : decode cd_Df_checkOf 17 = .ok (.aload_n 0, 1) := by decide +kernel
theorem d_Df_checkOf_18 : decode cd_Df_checkOf 18 = .ok (.iload 5, 2) := by decide +kernel
theorem d_Df_checkOf_20 : decode cd_Df_checkOf 20 = .ok (.iaload, 1) := by decide +kernel
theorem d_Df_checkOf_21 : decode cd_Df_checkOf 21 = .ok (.iadd, 1) := by decide +kernel
theorem d_Df_checkOf_22 : decode cd_Df_checkOf 22 = .ok (.ldc 246, 2) := by decide +kernel
theorem d_Df_checkOf_24 : decode cd_Df_checkOf 24 = .ok (.irem, 1) := by decide +kernel
theorem d_Df_checkOf_25 : decode cd_Df_checkOf 25 = .ok (.istore_n 3, 1) := by decide +kernel
theorem d_Df_checkOf_26 : decode cd_Df_checkOf 26 = .ok (.iload 4, 2) := by decide +kernel
theorem d_Df_checkOf_28 : decode cd_Df_checkOf 28 = .ok (.iload_n 3, 1) := by decide +kernel
theorem d_Df_checkOf_29 : decode cd_Df_checkOf 29 = .ok (.iadd, 1) := by decide +kernel
theorem d_Df_checkOf_30 : decode cd_Df_checkOf 30 = .ok (.ldc 246, 2) := by decide +kernel
theorem d_Df_checkOf_32 : decode cd_Df_checkOf 32 = .ok (.irem, 1) := by decide +kernel
theorem d_Df_checkOf_33 : decode cd_Df_checkOf 33 = .ok (.istore 4, 2) := by decide +kernel
theorem d_Df_checkOf_35 : decode cd_Df_checkOf 35 = .ok (.iinc 5 1, 3) := by decide +kernel
theorem d_Df_checkOf_38 : decode cd_Df_checkOf 38 = .ok (.goto (-30), 3) := by decide +kernel
theorem d_Df_checkOf_41 : decode cd_Df_checkOf 41 = .ok (.ldc2_w 247, 3) := by decide +kernel
theorem d_Df_checkOf_44 : decode cd_Df_checkOf 44 = .ok (.iload 4, 2) := by decide +kernel
theorem d_Df_checkOf_46 : decode cd_Df_checkOf 46 = .ok (.i2l, 1) := by decide +kernel
theorem d_Df_checkOf_47 : decode cd_Df_checkOf 47 = .ok (.lmul, 1) := by decide +kernel
theorem d_Df_checkOf_48 : decode cd_Df_checkOf 48 = .ok (.iload_n 3, 1) := by decide +kernel
theorem d_Df_checkOf_49 : decode cd_Df_checkOf 49 = .ok (.i2l, 1) := by decide +kernel
theorem d_Df_checkOf_50 : decode cd_Df_checkOf 50 = .ok (.ladd, 1) := by decide +kernel
theorem d_Df_checkOf_51 : decode cd_Df_checkOf 51 = .ok (.lreturn, 1) := by decide +kernel
