theorem d_Sg_init_0 : decode cd_Sg_init 0 = .ok (.aload_n 0, 1) := by decide +kernel
theorem d_Sg_init_1 : decode cd_Sg_init 1 = .ok (.invokespecial 3, 3) := by decide +kernel
theorem d_Sg_init_4 : decode cd_Sg_init 4 = .ok (.aload_n 0, 1) := by decide +kernel
theorem d_Sg_init_5 : decode cd_Sg_init 5 = .ok (.new 9, 3) := by decide +kernel
theorem d_Sg_init_8 : decode cd_Sg_init 8 = .ok (.dup, 1) := by decide +kernel
theorem d_Sg_init_9 : decode cd_Sg_init 9 = .ok (.invokespecial 11, 3) := by decide +kernel
theorem d_Sg_init_12 : decode cd_Sg_init 12 = .ok (.putfield 12, 3) := by decide +kernel
theorem d_Sg_init_15 : decode cd_Sg_init 15 = .ok (.aload_n 0, 1) := by decide +kernel
theorem d_Sg_init_16 : decode cd_Sg_init 16 = .ok (.bipush 75, 2) := by decide +kernel
theorem d_Sg_init_18 : decode cd_Sg_init 18 = .ok (.newarray .long, 2) := by decide +kernel
theorem d_Sg_init_20 : decode cd_Sg_init 20 = .ok (.putfield 18, 3) := by decide +kernel
theorem d_Sg_init_23 : decode cd_Sg_init 23 = .ok (.aload_n 0, 1) := by decide +kernel
theorem d_Sg_init_24 : decode cd_Sg_init 24 = .ok (.bipush 75, 2) := by decide +kernel
theorem d_Sg_init_26 : decode cd_Sg_init 26 = .ok (.newarray .long, 2) := by decide +kernel
theorem d_Sg_init_28 : decode cd_Sg_init 28 = .ok (.putfield 22, 3) := by decide +kernel
theorem d_Sg_init_31 : decode cd_Sg_init 31 = .ok (.aload_n 0, 1) := by decide +kernel
theorem d_Sg_init_32 : decode cd_Sg_init 32 = .ok (.bipush 75, 2) := by decide +kernel
theorem d_Sg_init_34 : decode cd_Sg_init 34 = .ok (.newarray .long, 2) := by decide +kernel
theorem d_Sg_init_36 : decode cd_Sg_init 36 = .ok (.putfield 25, 3) := by decide +kernel
theorem d_Sg_init_39 : decode cd_Sg_init 39 = .ok (.aload_n 0, 1) := by decide +kernel
theorem d_Sg_init_40 : decode cd_Sg_init 40 = .ok (.new 28, 3) := by decide +kernel
theorem d_Sg_init_43 : decode cd_Sg_init 43 = .ok (.dup, 1) := by decide +kernel
theorem d_Sg_init_44 : decode cd_Sg_init 44 = .ok (.invokespecial 30, 3) := by decide +kernel
theorem d_Sg_init_47 : decode cd_Sg_init 47 = .ok (.putfield 31, 3) := by decide +kernel
theorem d_Sg_init_50 : decode cd_Sg_init 50 = .ok (.return_, 1) := by decide +kernel
theorem d_Sg_reach_0 : decode cd_Sg_reach 0 = .ok (.aload_n 0, 1) := by decide +kernel
theorem d_Sg_reach_1 : decode cd_Sg_reach 1 = .ok (.getfield 35, 3) := by decide +kernel
theorem d_Sg_reach_4 : decode cd_Sg_reach 4 = .ok (.aload_n 0, 1) := by decide +kernel
theorem d_Sg_reach_5 : decode cd_Sg_reach 5 = .ok (.getfield 39, 3) := by decide +kernel
theorem d_Sg_reach_8 : decode cd_Sg_reach 8 = .ok (.imul, 1) := by decide +kernel
theorem d_Sg_reach_9 : decode cd_Sg_reach 9 = .ok (.ireturn, 1) := by decide +kernel
theorem d_Sg_make_0 : decode cd_Sg_make 0 = .ok (.aload_n 0, 1) := by decide +kernel
theorem d_Sg_make_1 : decode cd_Sg_make 1 = .ok (.iconst 1, 1) := by decide +kernel
theorem d_Sg_make_2 : decode cd_Sg_make 2 = .ok (.putfield 42, 3) := by decide +kernel
theorem d_Sg_make_5 : decode cd_Sg_make 5 = .ok (.aload_n 0, 1) := by decide +kernel
theorem d_Sg_make_6 : decode cd_Sg_make 6 = .ok (.iload_n 2, 1) := by decide +kernel
theorem d_Sg_make_7 : decode cd_Sg_make 7 = .ok (.putfield 39, 3) := by decide +kernel
theorem d_Sg_make_10 : decode cd_Sg_make 10 = .ok (.aload_n 0, 1) := by decide +kernel
theorem d_Sg_make_11 : decode cd_Sg_make 11 = .ok (.iconst 0, 1) := by decide +kernel
theorem d_Sg_make_12 : decode cd_Sg_make 12 = .ok (.putfield 35, 3) := by decide +kernel
theorem d_Sg_make_15 : decode cd_Sg_make 15 = .ok (.iconst 0, 1) := by decide +kernel
theorem d_Sg_make_16 : decode cd_Sg_make 16 = .ok (.istore_n 3, 1) := by decide +kernel
theorem d_Sg_make_17 : decode cd_Sg_make 17 = .ok (.iload_n 3, 1) := by decide +kernel
theorem d_Sg_make_18 : decode cd_Sg_make 18 = .ok (.iload_n 2, 1) := by decide +kernel
theorem d_Sg_make_19 : decode cd_Sg_make 19 = .ok (.iadd, 1) := by decide +kernel
theorem d_Sg_make_20 : decode cd_Sg_make 20 = .ok (.aload_n 1, 1) := by decide +kernel
theorem d_Sg_make_21 : decode cd_Sg_make 21 = .ok (.getfield 46, 3) := by decide +kernel
theorem d_Sg_make_24 : decode cd_Sg_make 24 = .ok (.if_icmp .gt 94, 3) := by decide +kernel
theorem d_Sg_make_27 : decode cd_Sg_make 27 = .ok (.aload_n 0, 1) := by decide +kernel
theorem d_Sg_make_28 : decode cd_Sg_make 28 = .ok (.getfield 31, 3) := by decide +kernel
theorem d_Sg_make_31 : decode cd_Sg_make 31 = .ok (.aload_n 1, 1) := by decide +kernel
theorem d_Sg_make_32 : decode cd_Sg_make 32 = .ok (.getfield 49, 3) := by decide +kernel
theorem d_Sg_make_35 : decode cd_Sg_make 35 = .ok (.iload_n 3, 1) := by decide +kernel
theorem d_Sg_make_36 : decode cd_Sg_make 36 = .ok (.iload_n 2, 1) := by decide +kernel
theorem d_Sg_make_37 : decode cd_Sg_make 37 = .ok (.invokevirtual 53, 3) := by decide +kernel
theorem d_Sg_make_40 : decode cd_Sg_make 40 = .ok (.aload_n 0, 1) := by decide +kernel
theorem d_Sg_make_41 : decode cd_Sg_make 41 = .ok (.getfield 12, 3) := by decide +kernel
theorem d_Sg_make_44 : decode cd_Sg_make 44 = .ok (.aload_n 1, 1) := by decide +kernel
theorem d_Sg_make_45 : decode cd_Sg_make 45 = .ok (.getfield 49, 3) := by decide +kernel
theorem d_Sg_make_48 : decode cd_Sg_make 48 = .ok (.iload_n 3, 1) := by decide +kernel
theorem d_Sg_make_49 : decode cd_Sg_make 49 = .ok (.iload_n 2, 1) := by decide +kernel
theorem d_Sg_make_50 : decode cd_Sg_make 50 = .ok (.invokevirtual 57, 3) := by decide +kernel
theorem d_Sg_make_53 : decode cd_Sg_make 53 = .ok (.aload_n 0, 1) := by decide +kernel
theorem d_Sg_make_54 : decode cd_Sg_make 54 = .ok (.getfield 18, 3) := by decide +kernel
theorem d_Sg_make_57 : decode cd_Sg_make 57 = .ok (.aload_n 0, 1) := by decide +kernel
theorem d_Sg_make_58 : decode cd_Sg_make 58 = .ok (.getfield 35, 3) := by decide +kernel
theorem d_Sg_make_61 : decode cd_Sg_make 61 = .ok (.aload_n 0, 1) := by decide +kernel
theorem d_Sg_make_62 : decode cd_Sg_make 62 = .ok (.getfield 31, 3) := by decide +kernel
theorem d_Sg_make_65 : decode cd_Sg_make 65 = .ok (.invokevirtual 58, 3) := by decide +kernel
theorem d_Sg_make_68 : decode cd_Sg_make 68 = .ok (.lastore, 1) := by decide +kernel
theorem d_Sg_make_69 : decode cd_Sg_make 69 = .ok (.aload_n 0, 1) := by decide +kernel
theorem d_Sg_make_70 : decode cd_Sg_make 70 = .ok (.getfield 22, 3) := by decide +kernel
theorem d_Sg_make_73 : decode cd_Sg_make 73 = .ok (.aload_n 0, 1) := by decide +kernel
theorem d_Sg_make_74 : decode cd_Sg_make 74 = .ok (.getfield 35, 3) := by decide +kernel
theorem d_Sg_make_77 : decode cd_Sg_make 77 = .ok (.aload_n 0, 1) := by decide +kernel
theorem d_Sg_make_78 : decode cd_Sg_make 78 = .ok (.getfield 12, 3) := by decide +kernel
theorem d_Sg_make_81 : decode cd_Sg_make 81 = .ok (.invokevirtual 62, 3) := by decide +kernel
theorem d_Sg_make_84 : decode cd_Sg_make 84 = .ok (.lastore, 1) := by decide +kernel
theorem d_Sg_make_85 : decode cd_Sg_make 85 = .ok (.aload_n 0, 1) := by decide +kernel
theorem d_Sg_make_86 : decode cd_Sg_make 86 = .ok (.getfield 25, 3) := by decide +kernel
theorem d_Sg_make_89 : decode cd_Sg_make 89 = .ok (.aload_n 0, 1) := by decide +kernel
theorem d_Sg_make_90 : decode cd_Sg_make 90 = .ok (.getfield 35, 3) := by decide +kernel
theorem d_Sg_make_93 : decode cd_Sg_make 93 = .ok (.aload_n 0, 1) := by decide +kernel
theorem d_Sg_make_94 : decode cd_Sg_make 94 = .ok (.getfield 12, 3) := by decide +kernel
theorem d_Sg_make_97 : decode cd_Sg_make 97 = .ok (.invokevirtual 65, 3) := by decide +kernel
theorem d_Sg_make_100 : decode cd_Sg_make 100 = .ok (.lastore, 1) := by decide +kernel
theorem d_Sg_make_101 : decode cd_Sg_make 101 = .ok (.aload_n 0, 1) := by decide +kernel
theorem d_Sg_make_102 : decode cd_Sg_make 102 = .ok (.dup, 1) := by decide +kernel
theorem d_Sg_make_103 : decode cd_Sg_make 103 = .ok (.getfield 35, 3) := by decide +kernel
theorem d_Sg_make_106 : decode cd_Sg_make 106 = .ok (.iconst 1, 1) := by decide +kernel
theorem d_Sg_make_107 : decode cd_Sg_make 107 = .ok (.iadd, 1) := by decide +kernel
theorem d_Sg_make_108 : decode cd_Sg_make 108 = .ok (.putfield 35, 3) := by decide +kernel
theorem d_Sg_make_111 : decode cd_Sg_make 111 = .ok (.iload_n 3, 1) := by decide +kernel
theorem d_Sg_make_112 : decode cd_Sg_make 112 = .ok (.iload_n 2, 1) := by decide +kernel
theorem d_Sg_make_113 : decode cd_Sg_make 113 = .ok (.iadd, 1) := by decide +kernel
theorem d_Sg_make_114 : decode cd_Sg_make 114 = .ok (.istore_n 3, 1) := by decide +kernel
theorem d_Sg_make_115 : decode cd_Sg_make 115 = .ok (.goto (-98), 3) := by decide +kernel
theorem d_Sg_make_118 : decode cd_Sg_make 118 = .ok (.return_, 1) := by decide +kernel
theorem d_Sg_findAt_0 : decode cd_Sg_findAt 0 = .ok (.iload_n 2, 1) := by decide +kernel
theorem d_Sg_findAt_1 : decode cd_Sg_findAt 1 = .ok (.aload_n 0, 1) := by decide +kernel
theorem d_Sg_findAt_2 : decode cd_Sg_findAt 2 = .ok (.getfield 39, 3) := by decide +kernel
theorem d_Sg_findAt_5 : decode cd_Sg_findAt 5 = .ok (.iadd, 1) := by decide +kernel
theorem d_Sg_findAt_6 : decode cd_Sg_findAt 6 = .ok (.aload_n 1, 1) := by decide +kernel
theorem d_Sg_findAt_7 : decode cd_Sg_findAt 7 = .ok (.getfield 46, 3) := by decide +kernel
theorem d_Sg_findAt_10 : decode cd_Sg_findAt 10 = .ok (.if_icmp .le 5, 3) := by decide +kernel
theorem d_Sg_findAt_13 : decode cd_Sg_findAt 13 = .ok (.iconst (-1), 1) := by decide +kernel
theorem d_Sg_findAt_14 : decode cd_Sg_findAt 14 = .ok (.ireturn, 1) := by decide +kernel
theorem d_Sg_findAt_15 : decode cd_Sg_findAt 15 = .ok (.aload_n 3, 1) := by decide +kernel
theorem d_Sg_findAt_16 : decode cd_Sg_findAt 16 = .ok (.aload_n 1, 1) := by decide +kernel
theorem d_Sg_findAt_17 : decode cd_Sg_findAt 17 = .ok (.getfield 49, 3) := by decide +kernel
theorem d_Sg_findAt_20 : decode cd_Sg_findAt 20 = .ok (.iload_n 2, 1) := by decide +kernel
theorem d_Sg_findAt_21 : decode cd_Sg_findAt 21 = .ok (.aload_n 0, 1) := by decide +kernel
theorem d_Sg_findAt_22 : decode cd_Sg_findAt 22 = .ok (.getfield 39, 3) := by decide +kernel
theorem d_Sg_findAt_25 : decode cd_Sg_findAt 25 = .ok (.invokevirtual 68, 3) := by decide +kernel
theorem d_Sg_findAt_28 : decode cd_Sg_findAt 28 = .ok (.aload_n 3, 1) := by decide +kernel
theorem d_Sg_findAt_29 : decode cd_Sg_findAt 29 = .ok (.invokevirtual 58, 3) := by decide +kernel
theorem d_Sg_findAt_32 : decode cd_Sg_findAt 32 = .ok (.lstore 4, 2) := by decide +kernel
theorem d_Sg_findAt_34 : decode cd_Sg_findAt 34 = .ok (.iconst 0, 1) := by decide +kernel
theorem d_Sg_findAt_35 : decode cd_Sg_findAt 35 = .ok (.istore 6, 2) := by decide +kernel
theorem d_Sg_findAt_37 : decode cd_Sg_findAt 37 = .ok (.iconst 0, 1) := by decide +kernel
theorem d_Sg_findAt_38 : decode cd_Sg_findAt 38 = .ok (.istore 7, 2) := by decide +kernel
theorem d_Sg_findAt_40 : decode cd_Sg_findAt 40 = .ok (.iload 7, 2) := by decide +kernel
theorem d_Sg_findAt_42 : decode cd_Sg_findAt 42 = .ok (.aload_n 0, 1) := by decide +kernel
theorem d_Sg_findAt_43 : decode cd_Sg_findAt 43 = .ok (.getfield 35, 3) := by decide +kernel
theorem d_Sg_findAt_46 : decode cd_Sg_findAt 46 = .ok (.if_icmp .ge 85, 3) := by decide +kernel
theorem d_Sg_findAt_49 : decode cd_Sg_findAt 49 = .ok (.aload_n 0, 1) := by decide +kernel
theorem d_Sg_findAt_50 : decode cd_Sg_findAt 50 = .ok (.getfield 18, 3) := by decide +kernel
theorem d_Sg_findAt_53 : decode cd_Sg_findAt 53 = .ok (.iload 7, 2) := by decide +kernel
theorem d_Sg_findAt_55 : decode cd_Sg_findAt 55 = .ok (.laload, 1) := by decide +kernel
theorem d_Sg_findAt_56 : decode cd_Sg_findAt 56 = .ok (.lload 4, 2) := by decide +kernel
theorem d_Sg_findAt_58 : decode cd_Sg_findAt 58 = .ok (.lcmp, 1) := by decide +kernel
theorem d_Sg_findAt_59 : decode cd_Sg_findAt 59 = .ok (.ifCond .ne 66, 3) := by decide +kernel
theorem d_Sg_findAt_62 : decode cd_Sg_findAt 62 = .ok (.iload 6, 2) := by decide +kernel
theorem d_Sg_findAt_64 : decode cd_Sg_findAt 64 = .ok (.ifCond .ne 22, 3) := by decide +kernel
theorem d_Sg_findAt_67 : decode cd_Sg_findAt 67 = .ok (.aload_n 0, 1) := by decide +kernel
theorem d_Sg_findAt_68 : decode cd_Sg_findAt 68 = .ok (.getfield 12, 3) := by decide +kernel
theorem d_Sg_findAt_71 : decode cd_Sg_findAt 71 = .ok (.aload_n 1, 1) := by decide +kernel
theorem d_Sg_findAt_72 : decode cd_Sg_findAt 72 = .ok (.getfield 49, 3) := by decide +kernel
theorem d_Sg_findAt_75 : decode cd_Sg_findAt 75 = .ok (.iload_n 2, 1) := by decide +kernel
theorem d_Sg_findAt_76 : decode cd_Sg_findAt 76 = .ok (.aload_n 0, 1) := by decide +kernel
theorem d_Sg_findAt_77 : decode cd_Sg_findAt 77 = .ok (.getfield 39, 3) := by decide +kernel
theorem d_Sg_findAt_80 : decode cd_Sg_findAt 80 = .ok (.invokevirtual 57, 3) := by decide +kernel
theorem d_Sg_findAt_83 : decode cd_Sg_findAt 83 = .ok (.iconst 1, 1) := by decide +kernel
theorem d_Sg_findAt_84 : decode cd_Sg_findAt 84 = .ok (.istore 6, 2) := by decide +kernel
theorem d_Sg_findAt_86 : decode cd_Sg_findAt 86 = .ok (.aload_n 0, 1) := by decide +kernel
theorem d_Sg_findAt_87 : decode cd_Sg_findAt 87 = .ok (.getfield 22, 3) := by decide +kernel
theorem d_Sg_findAt_90 : decode cd_Sg_findAt 90 = .ok (.iload 7, 2) := by decide +kernel
theorem d_Sg_findAt_92 : decode cd_Sg_findAt 92 = .ok (.laload, 1) := by decide +kernel
theorem d_Sg_findAt_93 : decode cd_Sg_findAt 93 = .ok (.aload_n 0, 1) := by decide +kernel
theorem d_Sg_findAt_94 : decode cd_Sg_findAt 94 = .ok (.getfield 12, 3) := by decide +kernel
theorem d_Sg_findAt_97 : decode cd_Sg_findAt 97 = .ok (.invokevirtual 62, 3) := by decide +kernel
theorem d_Sg_findAt_100 : decode cd_Sg_findAt 100 = .ok (.lcmp, 1) := by decide +kernel
theorem d_Sg_findAt_101 : decode cd_Sg_findAt 101 = .ok (.ifCond .ne 24, 3) := by decide +kernel
theorem d_Sg_findAt_104 : decode cd_Sg_findAt 104 = .ok (.aload_n 0, 1) := by decide +kernel
theorem d_Sg_findAt_105 : decode cd_Sg_findAt 105 = .ok (.getfield 25, 3) := by decide +kernel
theorem d_Sg_findAt_108 : decode cd_Sg_findAt 108 = .ok (.iload 7, 2) := by decide +kernel
theorem d_Sg_findAt_110 : decode cd_Sg_findAt 110 = .ok (.laload, 1) := by decide +kernel
theorem d_Sg_findAt_111 : decode cd_Sg_findAt 111 = .ok (.aload_n 0, 1) := by decide +kernel
theorem d_Sg_findAt_112 : decode cd_Sg_findAt 112 = .ok (.getfield 12, 3) := by decide +kernel
theorem d_Sg_findAt_115 : decode cd_Sg_findAt 115 = .ok (.invokevirtual 65, 3) := by decide +kernel
theorem d_Sg_findAt_118 : decode cd_Sg_findAt 118 = .ok (.lcmp, 1) := by decide +kernel
theorem d_Sg_findAt_119 : decode cd_Sg_findAt 119 = .ok (.ifCond .ne 6, 3) := by decide +kernel
theorem d_Sg_findAt_122 : decode cd_Sg_findAt 122 = .ok (.iload 7, 2) := by decide +kernel
theorem d_Sg_findAt_124 : decode cd_Sg_findAt 124 = .ok (.ireturn, 1) := by decide +kernel
theorem d_Sg_findAt_125 : decode cd_Sg_findAt 125 = .ok (.iinc 7 1, 3) := by decide +kernel
theorem d_Sg_findAt_128 : decode cd_Sg_findAt 128 = .ok (.goto (-88), 3) := by decide +kernel
theorem d_Sg_findAt_131 : decode cd_Sg_findAt 131 = .ok (.iconst (-1), 1) := by decide +kernel
theorem d_Sg_findAt_132 : decode cd_Sg_findAt 132 = .ok (.ireturn, 1) := by decide +kernel
