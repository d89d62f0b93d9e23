theorem d_Ma_init_0 : decode cd_Ma_init 0 = .ok (.aload_n 0, 1) := by decide +kernel
theorem d_Ma_init_1 : decode cd_Ma_init 1 = .ok (.invokespecial 3, 3) := by decide +kernel
theorem d_Ma_init_4 : decode cd_Ma_init 4 = .ok (.aload_n 0, 1) := by decide +kernel
theorem d_Ma_init_5 : decode cd_Ma_init 5 = .ok (.sipush 556, 3) := by decide +kernel
theorem d_Ma_init_8 : decode cd_Ma_init 8 = .ok (.newarray .int, 2) := by decide +kernel
theorem d_Ma_init_10 : decode cd_Ma_init 10 = .ok (.putfield 9, 3) := by decide +kernel
theorem d_Ma_init_13 : decode cd_Ma_init 13 = .ok (.return_, 1) := by decide +kernel
theorem d_Ma_takeSource_0 : decode cd_Ma_takeSource 0 = .ok (.aload_n 0, 1) := by decide +kernel
theorem d_Ma_takeSource_1 : decode cd_Ma_takeSource 1 = .ok (.iload_n 2, 1) := by decide +kernel
theorem d_Ma_takeSource_2 : decode cd_Ma_takeSource 2 = .ok (.putfield 15, 3) := by decide +kernel
theorem d_Ma_takeSource_5 : decode cd_Ma_takeSource 5 = .ok (.aload_n 0, 1) := by decide +kernel
theorem d_Ma_takeSource_6 : decode cd_Ma_takeSource 6 = .ok (.aload_n 1, 1) := by decide +kernel
theorem d_Ma_takeSource_7 : decode cd_Ma_takeSource 7 = .ok (.getfield 19, 3) := by decide +kernel
theorem d_Ma_takeSource_10 : decode cd_Ma_takeSource 10 = .ok (.putfield 24, 3) := by decide +kernel
theorem d_Ma_takeSource_13 : decode cd_Ma_takeSource 13 = .ok (.aload_n 1, 1) := by decide +kernel
theorem d_Ma_takeSource_14 : decode cd_Ma_takeSource 14 = .ok (.getfield 27, 3) := by decide +kernel
theorem d_Ma_takeSource_17 : decode cd_Ma_takeSource 17 = .ok (.iconst 0, 1) := by decide +kernel
theorem d_Ma_takeSource_18 : decode cd_Ma_takeSource 18 = .ok (.aload_n 0, 1) := by decide +kernel
theorem d_Ma_takeSource_19 : decode cd_Ma_takeSource 19 = .ok (.getfield 9, 3) := by decide +kernel
theorem d_Ma_takeSource_22 : decode cd_Ma_takeSource 22 = .ok (.iconst 0, 1) := by decide +kernel
theorem d_Ma_takeSource_23 : decode cd_Ma_takeSource 23 = .ok (.aload_n 0, 1) := by decide +kernel
theorem d_Ma_takeSource_24 : decode cd_Ma_takeSource 24 = .ok (.getfield 24, 3) := by decide +kernel
theorem d_Ma_takeSource_27 : decode cd_Ma_takeSource 27 = .ok (.invokestatic 28, 3) := by decide +kernel
theorem d_Ma_takeSource_30 : decode cd_Ma_takeSource 30 = .ok (.return_, 1) := by decide +kernel
theorem d_Ma_takeWindow_0 : decode cd_Ma_takeWindow 0 = .ok (.iload_n 3, 1) := by decide +kernel
theorem d_Ma_takeWindow_1 : decode cd_Ma_takeWindow 1 = .ok (.aload_n 1, 1) := by decide +kernel
theorem d_Ma_takeWindow_2 : decode cd_Ma_takeWindow 2 = .ok (.getfield 19, 3) := by decide +kernel
theorem d_Ma_takeWindow_5 : decode cd_Ma_takeWindow 5 = .ok (.iload_n 2, 1) := by decide +kernel
theorem d_Ma_takeWindow_6 : decode cd_Ma_takeWindow 6 = .ok (.isub, 1) := by decide +kernel
theorem d_Ma_takeWindow_7 : decode cd_Ma_takeWindow 7 = .ok (.invokestatic 34, 3) := by decide +kernel
theorem d_Ma_takeWindow_10 : decode cd_Ma_takeWindow 10 = .ok (.istore 4, 2) := by decide +kernel
theorem d_Ma_takeWindow_12 : decode cd_Ma_takeWindow 12 = .ok (.aload_n 1, 1) := by decide +kernel
theorem d_Ma_takeWindow_13 : decode cd_Ma_takeWindow 13 = .ok (.getfield 27, 3) := by decide +kernel
theorem d_Ma_takeWindow_16 : decode cd_Ma_takeWindow 16 = .ok (.iload_n 2, 1) := by decide +kernel
theorem d_Ma_takeWindow_17 : decode cd_Ma_takeWindow 17 = .ok (.aload_n 0, 1) := by decide +kernel
theorem d_Ma_takeWindow_18 : decode cd_Ma_takeWindow 18 = .ok (.getfield 9, 3) := by decide +kernel
theorem d_Ma_takeWindow_21 : decode cd_Ma_takeWindow 21 = .ok (.aload_n 0, 1) := by decide +kernel
theorem d_Ma_takeWindow_22 : decode cd_Ma_takeWindow 22 = .ok (.getfield 24, 3) := by decide +kernel
theorem d_Ma_takeWindow_25 : decode cd_Ma_takeWindow 25 = .ok (.iload 4, 2) := by decide +kernel
theorem d_Ma_takeWindow_27 : decode cd_Ma_takeWindow 27 = .ok (.invokestatic 28, 3) := by decide +kernel
theorem d_Ma_takeWindow_30 : decode cd_Ma_takeWindow 30 = .ok (.aload_n 0, 1) := by decide +kernel
theorem d_Ma_takeWindow_31 : decode cd_Ma_takeWindow 31 = .ok (.aload_n 0, 1) := by decide +kernel
theorem d_Ma_takeWindow_32 : decode cd_Ma_takeWindow 32 = .ok (.getfield 24, 3) := by decide +kernel
theorem d_Ma_takeWindow_35 : decode cd_Ma_takeWindow 35 = .ok (.iload 4, 2) := by decide +kernel
theorem d_Ma_takeWindow_37 : decode cd_Ma_takeWindow 37 = .ok (.iadd, 1) := by decide +kernel
theorem d_Ma_takeWindow_38 : decode cd_Ma_takeWindow 38 = .ok (.putfield 40, 3) := by decide +kernel
theorem d_Ma_takeWindow_41 : decode cd_Ma_takeWindow 41 = .ok (.return_, 1) := by decide +kernel
theorem d_Ma_planWindow_0 : decode cd_Ma_planWindow 0 = .ok (.iconst 0, 1) := by decide +kernel
theorem d_Ma_planWindow_1 : decode cd_Ma_planWindow 1 = .ok (.istore_n 3, 1) := by decide +kernel
theorem d_Ma_planWindow_2 : decode cd_Ma_planWindow 2 = .ok (.aload_n 0, 1) := by decide +kernel
theorem d_Ma_planWindow_3 : decode cd_Ma_planWindow 3 = .ok (.getfield 24, 3) := by decide +kernel
theorem d_Ma_planWindow_6 : decode cd_Ma_planWindow 6 = .ok (.istore 4, 2) := by decide +kernel
theorem d_Ma_planWindow_8 : decode cd_Ma_planWindow 8 = .ok (.iload 4, 2) := by decide +kernel
theorem d_Ma_planWindow_10 : decode cd_Ma_planWindow 10 = .ok (.aload_n 0, 1) := by decide +kernel
theorem d_Ma_planWindow_11 : decode cd_Ma_planWindow 11 = .ok (.getfield 40, 3) := by decide +kernel
theorem d_Ma_planWindow_14 : decode cd_Ma_planWindow 14 = .ok (.if_icmp .ge 132, 3) := by decide +kernel
theorem d_Ma_planWindow_17 : decode cd_Ma_planWindow 17 = .ok (.aload_n 0, 1) := by decide +kernel
theorem d_Ma_planWindow_18 : decode cd_Ma_planWindow 18 = .ok (.iload 4, 2) := by decide +kernel
theorem d_Ma_planWindow_20 : decode cd_Ma_planWindow 20 = .ok (.invokevirtual 43, 3) := by decide +kernel
theorem d_Ma_planWindow_23 : decode cd_Ma_planWindow 23 = .ok (.istore 5, 2) := by decide +kernel
theorem d_Ma_planWindow_25 : decode cd_Ma_planWindow 25 = .ok (.aload_n 0, 1) := by decide +kernel
theorem d_Ma_planWindow_26 : decode cd_Ma_planWindow 26 = .ok (.iload 4, 2) := by decide +kernel
theorem d_Ma_planWindow_28 : decode cd_Ma_planWindow 28 = .ok (.invokevirtual 47, 3) := by decide +kernel
theorem d_Ma_planWindow_31 : decode cd_Ma_planWindow 31 = .ok (.iload 5, 2) := by decide +kernel
theorem d_Ma_planWindow_33 : decode cd_Ma_planWindow 33 = .ok (.iconst 4, 1) := by decide +kernel
theorem d_Ma_planWindow_34 : decode cd_Ma_planWindow 34 = .ok (.if_icmp .lt 41, 3) := by decide +kernel
theorem d_Ma_planWindow_37 : decode cd_Ma_planWindow 37 = .ok (.iload 5, 2) := by decide +kernel
theorem d_Ma_planWindow_39 : decode cd_Ma_planWindow 39 = .ok (.aload_n 0, 1) := by decide +kernel
theorem d_Ma_planWindow_40 : decode cd_Ma_planWindow 40 = .ok (.getfield 51, 3) := by decide +kernel
theorem d_Ma_planWindow_43 : decode cd_Ma_planWindow 43 = .ok (.if_icmp .lt 32, 3) := by decide +kernel
theorem d_Ma_planWindow_46 : decode cd_Ma_planWindow 46 = .ok (.aload_n 1, 1) := by decide +kernel
theorem d_Ma_planWindow_47 : decode cd_Ma_planWindow 47 = .ok (.iload_n 3, 1) := by decide +kernel
theorem d_Ma_planWindow_48 : decode cd_Ma_planWindow 48 = .ok (.iload_n 2, 1) := by decide +kernel
theorem d_Ma_planWindow_49 : decode cd_Ma_planWindow 49 = .ok (.invokestatic 54, 3) := by decide +kernel
theorem d_Ma_planWindow_52 : decode cd_Ma_planWindow 52 = .ok (.aload_n 1, 1) := by decide +kernel
theorem d_Ma_planWindow_53 : decode cd_Ma_planWindow 53 = .ok (.iconst 2, 1) := by decide +kernel
theorem d_Ma_planWindow_54 : decode cd_Ma_planWindow 54 = .ok (.iload 5, 2) := by decide +kernel
theorem d_Ma_planWindow_56 : decode cd_Ma_planWindow 56 = .ok (.iconst (-1), 1) := by decide +kernel
theorem d_Ma_planWindow_57 : decode cd_Ma_planWindow 57 = .ok (.iload_n 2, 1) := by decide +kernel
theorem d_Ma_planWindow_58 : decode cd_Ma_planWindow 58 = .ok (.invokevirtual 58, 3) := by decide +kernel
theorem d_Ma_planWindow_61 : decode cd_Ma_planWindow 61 = .ok (.iconst 0, 1) := by decide +kernel
theorem d_Ma_planWindow_62 : decode cd_Ma_planWindow 62 = .ok (.istore_n 3, 1) := by decide +kernel
theorem d_Ma_planWindow_63 : decode cd_Ma_planWindow 63 = .ok (.iload 4, 2) := by decide +kernel
theorem d_Ma_planWindow_65 : decode cd_Ma_planWindow 65 = .ok (.iload 5, 2) := by decide +kernel
theorem d_Ma_planWindow_67 : decode cd_Ma_planWindow 67 = .ok (.iconst 1, 1) := by decide +kernel
theorem d_Ma_planWindow_68 : decode cd_Ma_planWindow 68 = .ok (.isub, 1) := by decide +kernel
theorem d_Ma_planWindow_69 : decode cd_Ma_planWindow 69 = .ok (.iadd, 1) := by decide +kernel
theorem d_Ma_planWindow_70 : decode cd_Ma_planWindow 70 = .ok (.istore 4, 2) := by decide +kernel
theorem d_Ma_planWindow_72 : decode cd_Ma_planWindow 72 = .ok (.goto 68, 3) := by decide +kernel
theorem d_Ma_planWindow_75 : decode cd_Ma_planWindow 75 = .ok (.aload_n 0, 1) := by decide +kernel
theorem d_Ma_planWindow_76 : decode cd_Ma_planWindow 76 = .ok (.getfield 51, 3) := by decide +kernel
theorem d_Ma_planWindow_79 : decode cd_Ma_planWindow 79 = .ok (.iconst 4, 1) := by decide +kernel
theorem d_Ma_planWindow_80 : decode cd_Ma_planWindow 80 = .ok (.if_icmp .lt 57, 3) := by decide +kernel
theorem d_Ma_planWindow_83 : decode cd_Ma_planWindow 83 = .ok (.aload_n 0, 1) := by decide +kernel
theorem d_Ma_planWindow_84 : decode cd_Ma_planWindow 84 = .ok (.iload 4, 2) := by decide +kernel
theorem d_Ma_planWindow_86 : decode cd_Ma_planWindow 86 = .ok (.iload_n 3, 1) := by decide +kernel
theorem d_Ma_planWindow_87 : decode cd_Ma_planWindow 87 = .ok (.invokevirtual 64, 3) := by decide +kernel
theorem d_Ma_planWindow_90 : decode cd_Ma_planWindow 90 = .ok (.istore 6, 2) := by decide +kernel
theorem d_Ma_planWindow_92 : decode cd_Ma_planWindow 92 = .ok (.aload_n 1, 1) := by decide +kernel
theorem d_Ma_planWindow_93 : decode cd_Ma_planWindow 93 = .ok (.iload_n 3, 1) := by decide +kernel
theorem d_Ma_planWindow_94 : decode cd_Ma_planWindow 94 = .ok (.iload 6, 2) := by decide +kernel
theorem d_Ma_planWindow_96 : decode cd_Ma_planWindow 96 = .ok (.isub, 1) := by decide +kernel
theorem d_Ma_planWindow_97 : decode cd_Ma_planWindow 97 = .ok (.iload_n 2, 1) := by decide +kernel
theorem d_Ma_planWindow_98 : decode cd_Ma_planWindow 98 = .ok (.invokestatic 54, 3) := by decide +kernel
theorem d_Ma_planWindow_101 : decode cd_Ma_planWindow 101 = .ok (.aload_n 1, 1) := by decide +kernel
theorem d_Ma_planWindow_102 : decode cd_Ma_planWindow 102 = .ok (.iconst 3, 1) := by decide +kernel
theorem d_Ma_planWindow_103 : decode cd_Ma_planWindow 103 = .ok (.iload 6, 2) := by decide +kernel
theorem d_Ma_planWindow_105 : decode cd_Ma_planWindow 105 = .ok (.aload_n 0, 1) := by decide +kernel
theorem d_Ma_planWindow_106 : decode cd_Ma_planWindow 106 = .ok (.getfield 51, 3) := by decide +kernel
theorem d_Ma_planWindow_109 : decode cd_Ma_planWindow 109 = .ok (.iadd, 1) := by decide +kernel
theorem d_Ma_planWindow_110 : decode cd_Ma_planWindow 110 = .ok (.aload_n 0, 1) := by decide +kernel
theorem d_Ma_planWindow_111 : decode cd_Ma_planWindow 111 = .ok (.getfield 67, 3) := by decide +kernel
theorem d_Ma_planWindow_114 : decode cd_Ma_planWindow 114 = .ok (.iload 6, 2) := by decide +kernel
theorem d_Ma_planWindow_116 : decode cd_Ma_planWindow 116 = .ok (.isub, 1) := by decide +kernel
theorem d_Ma_planWindow_117 : decode cd_Ma_planWindow 117 = .ok (.iload_n 2, 1) := by decide +kernel
theorem d_Ma_planWindow_118 : decode cd_Ma_planWindow 118 = .ok (.invokevirtual 58, 3) := by decide +kernel
theorem d_Ma_planWindow_121 : decode cd_Ma_planWindow 121 = .ok (.iconst 0, 1) := by decide +kernel
theorem d_Ma_planWindow_122 : decode cd_Ma_planWindow 122 = .ok (.istore_n 3, 1) := by decide +kernel
theorem d_Ma_planWindow_123 : decode cd_Ma_planWindow 123 = .ok (.iload 4, 2) := by decide +kernel
theorem d_Ma_planWindow_125 : decode cd_Ma_planWindow 125 = .ok (.aload_n 0, 1) := by decide +kernel
theorem d_Ma_planWindow_126 : decode cd_Ma_planWindow 126 = .ok (.getfield 51, 3) := by decide +kernel
theorem d_Ma_planWindow_129 : decode cd_Ma_planWindow 129 = .ok (.iconst 1, 1) := by decide +kernel
theorem d_Ma_planWindow_130 : decode cd_Ma_planWindow 130 = .ok (.isub, 1) := by decide +kernel
theorem d_Ma_planWindow_131 : decode cd_Ma_planWindow 131 = .ok (.iadd, 1) := by decide +kernel
theorem d_Ma_planWindow_132 : decode cd_Ma_planWindow 132 = .ok (.istore 4, 2) := by decide +kernel
theorem d_Ma_planWindow_134 : decode cd_Ma_planWindow 134 = .ok (.goto 6, 3) := by decide +kernel
theorem d_Ma_planWindow_137 : decode cd_Ma_planWindow 137 = .ok (.iinc 3 1, 3) := by decide +kernel
theorem d_Ma_planWindow_140 : decode cd_Ma_planWindow 140 = .ok (.iinc 4 1, 3) := by decide +kernel
theorem d_Ma_planWindow_143 : decode cd_Ma_planWindow 143 = .ok (.goto (-135), 3) := by decide +kernel
theorem d_Ma_planWindow_146 : decode cd_Ma_planWindow 146 = .ok (.aload_n 1, 1) := by decide +kernel
theorem d_Ma_planWindow_147 : decode cd_Ma_planWindow 147 = .ok (.iload_n 3, 1) := by decide +kernel
theorem d_Ma_planWindow_148 : decode cd_Ma_planWindow 148 = .ok (.iload_n 2, 1) := by decide +kernel
theorem d_Ma_planWindow_149 : decode cd_Ma_planWindow 149 = .ok (.invokestatic 54, 3) := by decide +kernel
theorem d_Ma_planWindow_152 : decode cd_Ma_planWindow 152 = .ok (.return_, 1) := by decide +kernel
theorem d_Ma_appendAdd_0 : decode cd_Ma_appendAdd 0 = .ok (.iload_n 1, 1) := by decide +kernel
theorem d_Ma_appendAdd_1 : decode cd_Ma_appendAdd 1 = .ok (.ifCond .le 11, 3) := by decide +kernel
theorem d_Ma_appendAdd_4 : decode cd_Ma_appendAdd 4 = .ok (.aload_n 0, 1) := by decide +kernel
theorem d_Ma_appendAdd_5 : decode cd_Ma_appendAdd 5 = .ok (.iconst 1, 1) := by decide +kernel
theorem d_Ma_appendAdd_6 : decode cd_Ma_appendAdd 6 = .ok (.iload_n 1, 1) := by decide +kernel
theorem d_Ma_appendAdd_7 : decode cd_Ma_appendAdd 7 = .ok (.iconst (-1), 1) := by decide +kernel
theorem d_Ma_appendAdd_8 : decode cd_Ma_appendAdd 8 = .ok (.iload_n 2, 1) := by decide +kernel
theorem d_Ma_appendAdd_9 : decode cd_Ma_appendAdd 9 = .ok (.invokevirtual 58, 3) := by decide +kernel
theorem d_Ma_appendAdd_12 : decode cd_Ma_appendAdd 12 = .ok (.return_, 1) := by decide +kernel
theorem d_Ma_runAt_0 : decode cd_Ma_runAt 0 = .ok (.iconst 1, 1) := by decide +kernel
theorem d_Ma_runAt_1 : decode cd_Ma_runAt 1 = .ok (.istore_n 2, 1) := by decide +kernel
theorem d_Ma_runAt_2 : decode cd_Ma_runAt 2 = .ok (.iload_n 1, 1) := by decide +kernel
theorem d_Ma_runAt_3 : decode cd_Ma_runAt 3 = .ok (.iload_n 2, 1) := by decide +kernel
theorem d_Ma_runAt_4 : decode cd_Ma_runAt 4 = .ok (.iadd, 1) := by decide +kernel
theorem d_Ma_runAt_5 : decode cd_Ma_runAt 5 = .ok (.aload_n 0, 1) := by decide +kernel
theorem d_Ma_runAt_6 : decode cd_Ma_runAt 6 = .ok (.getfield 40, 3) := by decide +kernel
theorem d_Ma_runAt_9 : decode cd_Ma_runAt 9 = .ok (.if_icmp .ge 26, 3) := by decide +kernel
theorem d_Ma_runAt_12 : decode cd_Ma_runAt 12 = .ok (.aload_n 0, 1) := by decide +kernel
theorem d_Ma_runAt_13 : decode cd_Ma_runAt 13 = .ok (.getfield 9, 3) := by decide +kernel
theorem d_Ma_runAt_16 : decode cd_Ma_runAt 16 = .ok (.iload_n 1, 1) := by decide +kernel
theorem d_Ma_runAt_17 : decode cd_Ma_runAt 17 = .ok (.iload_n 2, 1) := by decide +kernel
theorem d_Ma_runAt_18 : decode cd_Ma_runAt 18 = .ok (.iadd, 1) := by decide +kernel
theorem d_Ma_runAt_19 : decode cd_Ma_runAt 19 = .ok (.iaload, 1) := by decide +kernel
theorem d_Ma_runAt_20 : decode cd_Ma_runAt 20 = .ok (.aload_n 0, 1) := by decide +kernel
theorem d_Ma_runAt_21 : decode cd_Ma_runAt 21 = .ok (.getfield 9, 3) := by decide +kernel
theorem d_Ma_runAt_24 : decode cd_Ma_runAt 24 = .ok (.iload_n 1, 1) := by decide +kernel
theorem d_Ma_runAt_25 : decode cd_Ma_runAt 25 = .ok (.iaload, 1) := by decide +kernel
theorem d_Ma_runAt_26 : decode cd_Ma_runAt 26 = .ok (.if_icmp .ne 9, 3) := by decide +kernel
theorem d_Ma_runAt_29 : decode cd_Ma_runAt 29 = .ok (.iinc 2 1, 3) := by decide +kernel
theorem d_Ma_runAt_32 : decode cd_Ma_runAt 32 = .ok (.goto (-30), 3) := by decide +kernel
theorem d_Ma_runAt_35 : decode cd_Ma_runAt 35 = .ok (.iload_n 2, 1) := by decide +kernel
theorem d_Ma_runAt_36 : decode cd_Ma_runAt 36 = .ok (.ireturn, 1) := by decide +kernel
theorem d_Ma_findMatch_0 : decode cd_Ma_findMatch 0 = .ok (.aload_n 0, 1) := by decide +kernel
theorem d_Ma_findMatch_1 : decode cd_Ma_findMatch 1 = .ok (.iconst 0, 1) := by decide +kernel
theorem d_Ma_findMatch_2 : decode cd_Ma_findMatch 2 = .ok (.putfield 51, 3) := by decide +kernel
theorem d_Ma_findMatch_5 : decode cd_Ma_findMatch 5 = .ok (.aload_n 0, 1) := by decide +kernel
theorem d_Ma_findMatch_6 : decode cd_Ma_findMatch 6 = .ok (.iconst (-1), 1) := by decide +kernel
theorem d_Ma_findMatch_7 : decode cd_Ma_findMatch 7 = .ok (.putfield 67, 3) := by decide +kernel
theorem d_Ma_findMatch_10 : decode cd_Ma_findMatch 10 = .ok (.iload_n 1, 1) := by decide +kernel
theorem d_Ma_findMatch_11 : decode cd_Ma_findMatch 11 = .ok (.iconst 4, 1) := by decide +kernel
theorem d_Ma_findMatch_12 : decode cd_Ma_findMatch 12 = .ok (.iadd, 1) := by decide +kernel
theorem d_Ma_findMatch_13 : decode cd_Ma_findMatch 13 = .ok (.aload_n 0, 1) := by decide +kernel
theorem d_Ma_findMatch_14 : decode cd_Ma_findMatch 14 = .ok (.getfield 40, 3) := by decide +kernel
theorem d_Ma_findMatch_17 : decode cd_Ma_findMatch 17 = .ok (.if_icmp .le 4, 3) := by decide +kernel
theorem d_Ma_findMatch_20 : decode cd_Ma_findMatch 20 = .ok (.return_, 1) := by decide +kernel
theorem d_Ma_findMatch_21 : decode cd_Ma_findMatch 21 = .ok (.iconst 0, 1) := by decide +kernel
theorem d_Ma_findMatch_22 : decode cd_Ma_findMatch 22 = .ok (.istore_n 2, 1) := by decide +kernel
theorem d_Ma_findMatch_23 : decode cd_Ma_findMatch 23 = .ok (.iload_n 1, 1) := by decide +kernel
theorem d_Ma_findMatch_24 : decode cd_Ma_findMatch 24 = .ok (.iconst 1, 1) := by decide +kernel
theorem d_Ma_findMatch_25 : decode cd_Ma_findMatch 25 = .ok (.isub, 1) := by decide +kernel
theorem d_Ma_findMatch_26 : decode cd_Ma_findMatch 26 = .ok (.istore_n 3, 1) := by decide +kernel
theorem d_Ma_findMatch_27 : decode cd_Ma_findMatch 27 = .ok (.iload_n 3, 1) := by decide +kernel
theorem d_Ma_findMatch_28 : decode cd_Ma_findMatch 28 = .ok (.ifCond .lt 57, 3) := by decide +kernel
theorem d_Ma_findMatch_31 : decode cd_Ma_findMatch 31 = .ok (.iload_n 2, 1) := by decide +kernel
theorem d_Ma_findMatch_32 : decode cd_Ma_findMatch 32 = .ok (.aload_n 0, 1) := by decide +kernel
theorem d_Ma_findMatch_33 : decode cd_Ma_findMatch 33 = .ok (.getfield 15, 3) := by decide +kernel
theorem d_Ma_findMatch_36 : decode cd_Ma_findMatch 36 = .ok (.if_icmp .ge 49, 3) := by decide +kernel
theorem d_Ma_findMatch_39 : decode cd_Ma_findMatch 39 = .ok (.aload_n 0, 1) := by decide +kernel
theorem d_Ma_findMatch_40 : decode cd_Ma_findMatch 40 = .ok (.iload_n 3, 1) := by decide +kernel
theorem d_Ma_findMatch_41 : decode cd_Ma_findMatch 41 = .ok (.iload_n 1, 1) := by decide +kernel
theorem d_Ma_findMatch_42 : decode cd_Ma_findMatch 42 = .ok (.invokevirtual 70, 3) := by decide +kernel
theorem d_Ma_findMatch_45 : decode cd_Ma_findMatch 45 = .ok (.ifCond .eq 34, 3) := by decide +kernel
theorem d_Ma_findMatch_48 : decode cd_Ma_findMatch 48 = .ok (.iinc 2 1, 3) := by decide +kernel
theorem d_Ma_findMatch_51 : decode cd_Ma_findMatch 51 = .ok (.aload_n 0, 1) := by decide +kernel
theorem d_Ma_findMatch_52 : decode cd_Ma_findMatch 52 = .ok (.iload_n 3, 1) := by decide +kernel
theorem d_Ma_findMatch_53 : decode cd_Ma_findMatch 53 = .ok (.iload_n 1, 1) := by decide +kernel
theorem d_Ma_findMatch_54 : decode cd_Ma_findMatch 54 = .ok (.invokevirtual 74, 3) := by decide +kernel
theorem d_Ma_findMatch_57 : decode cd_Ma_findMatch 57 = .ok (.istore 4, 2) := by decide +kernel
theorem d_Ma_findMatch_59 : decode cd_Ma_findMatch 59 = .ok (.iload 4, 2) := by decide +kernel
theorem d_Ma_findMatch_61 : decode cd_Ma_findMatch 61 = .ok (.aload_n 0, 1) := by decide +kernel
theorem d_Ma_findMatch_62 : decode cd_Ma_findMatch 62 = .ok (.getfield 51, 3) := by decide +kernel
theorem d_Ma_findMatch_65 : decode cd_Ma_findMatch 65 = .ok (.if_icmp .le 14, 3) := by decide +kernel
theorem d_Ma_findMatch_68 : decode cd_Ma_findMatch 68 = .ok (.aload_n 0, 1) := by decide +kernel
theorem d_Ma_findMatch_69 : decode cd_Ma_findMatch 69 = .ok (.iload 4, 2) := by decide +kernel
theorem d_Ma_findMatch_71 : decode cd_Ma_findMatch 71 = .ok (.putfield 51, 3) := by decide +kernel
theorem d_Ma_findMatch_74 : decode cd_Ma_findMatch 74 = .ok (.aload_n 0, 1) := by decide +kernel
theorem d_Ma_findMatch_75 : decode cd_Ma_findMatch 75 = .ok (.iload_n 3, 1) := by decide +kernel
theorem d_Ma_findMatch_76 : decode cd_Ma_findMatch 76 = .ok (.putfield 67, 3) := by decide +kernel
theorem d_Ma_findMatch_79 : decode cd_Ma_findMatch 79 = .ok (.iinc 3 (-1), 3) := by decide +kernel
theorem d_Ma_findMatch_82 : decode cd_Ma_findMatch 82 = .ok (.goto (-55), 3) := by decide +kernel
theorem d_Ma_findMatch_85 : decode cd_Ma_findMatch 85 = .ok (.return_, 1) := by decide +kernel
theorem d_Ma_isCandidate_0 : decode cd_Ma_isCandidate 0 = .ok (.aload_n 0, 1) := by decide +kernel
theorem d_Ma_isCandidate_1 : decode cd_Ma_isCandidate 1 = .ok (.getfield 9, 3) := by decide +kernel
theorem d_Ma_isCandidate_4 : decode cd_Ma_isCandidate 4 = .ok (.iload_n 1, 1) := by decide +kernel
theorem d_Ma_isCandidate_5 : decode cd_Ma_isCandidate 5 = .ok (.iaload, 1) := by decide +kernel
theorem d_Ma_isCandidate_6 : decode cd_Ma_isCandidate 6 = .ok (.aload_n 0, 1) := by decide +kernel
theorem d_Ma_isCandidate_7 : decode cd_Ma_isCandidate 7 = .ok (.getfield 9, 3) := by decide +kernel
theorem d_Ma_isCandidate_10 : decode cd_Ma_isCandidate 10 = .ok (.iload_n 2, 1) := by decide +kernel
theorem d_Ma_isCandidate_11 : decode cd_Ma_isCandidate 11 = .ok (.iaload, 1) := by decide +kernel
theorem d_Ma_isCandidate_12 : decode cd_Ma_isCandidate 12 = .ok (.if_icmp .ne 21, 3) := by decide +kernel
theorem d_Ma_isCandidate_15 : decode cd_Ma_isCandidate 15 = .ok (.iload_n 1, 1) := by decide +kernel
theorem d_Ma_isCandidate_16 : decode cd_Ma_isCandidate 16 = .ok (.aload_n 0, 1) := by decide +kernel
theorem d_Ma_isCandidate_17 : decode cd_Ma_isCandidate 17 = .ok (.getfield 24, 3) := by decide +kernel
theorem d_Ma_isCandidate_20 : decode cd_Ma_isCandidate 20 = .ok (.if_icmp .ge 15, 3) := by decide +kernel
theorem d_Ma_isCandidate_23 : decode cd_Ma_isCandidate 23 = .ok (.iload_n 1, 1) := by decide +kernel
theorem d_Ma_isCandidate_24 : decode cd_Ma_isCandidate 24 = .ok (.iconst 4, 1) := by decide +kernel
theorem d_Ma_isCandidate_25 : decode cd_Ma_isCandidate 25 = .ok (.iadd, 1) := by decide +kernel
theorem d_Ma_isCandidate_26 : decode cd_Ma_isCandidate 26 = .ok (.aload_n 0, 1) := by decide +kernel
theorem d_Ma_isCandidate_27 : decode cd_Ma_isCandidate 27 = .ok (.getfield 24, 3) := by decide +kernel
theorem d_Ma_isCandidate_30 : decode cd_Ma_isCandidate 30 = .ok (.if_icmp .le 5, 3) := by decide +kernel
theorem d_Ma_isCandidate_33 : decode cd_Ma_isCandidate 33 = .ok (.iconst 0, 1) := by decide +kernel
theorem d_Ma_isCandidate_34 : decode cd_Ma_isCandidate 34 = .ok (.ireturn, 1) := by decide +kernel
theorem d_Ma_isCandidate_35 : decode cd_Ma_isCandidate 35 = .ok (.aload_n 0, 1) := by decide +kernel
theorem d_Ma_isCandidate_36 : decode cd_Ma_isCandidate 36 = .ok (.getfield 9, 3) := by decide +kernel
theorem d_Ma_isCandidate_39 : decode cd_Ma_isCandidate 39 = .ok (.iload_n 1, 1) := by decide +kernel
theorem d_Ma_isCandidate_40 : decode cd_Ma_isCandidate 40 = .ok (.iconst 1, 1) := by decide +kernel
theorem d_Ma_isCandidate_41 : decode cd_Ma_isCandidate 41 = .ok (.iadd, 1) := by decide +kernel
theorem d_Ma_isCandidate_42 : decode cd_Ma_isCandidate 42 = .ok (.iaload, 1) := by decide +kernel
theorem d_Ma_isCandidate_43 : decode cd_Ma_isCandidate 43 = .ok (.aload_n 0, 1) := by decide +kernel
theorem d_Ma_isCandidate_44 : decode cd_Ma_isCandidate 44 = .ok (.getfield 9, 3) := by decide +kernel
theorem d_Ma_isCandidate_47 : decode cd_Ma_isCandidate 47 = .ok (.iload_n 2, 1) := by decide +kernel
theorem d_Ma_isCandidate_48 : decode cd_Ma_isCandidate 48 = .ok (.iconst 1, 1) := by decide +kernel
theorem d_Ma_isCandidate_49 : decode cd_Ma_isCandidate 49 = .ok (.iadd, 1) := by decide +kernel
theorem d_Ma_isCandidate_50 : decode cd_Ma_isCandidate 50 = .ok (.iaload, 1) := by decide +kernel
theorem d_Ma_isCandidate_51 : decode cd_Ma_isCandidate 51 = .ok (.if_icmp .ne 45, 3) := by decide +kernel
theorem d_Ma_isCandidate_54 : decode cd_Ma_isCandidate 54 = .ok (.aload_n 0, 1) := by decide +kernel
theorem d_Ma_isCandidate_55 : decode cd_Ma_isCandidate 55 = .ok (.getfield 9, 3) := by decide +kernel
theorem d_Ma_isCandidate_58 : decode cd_Ma_isCandidate 58 = .ok (.iload_n 1, 1) := by decide +kernel
theorem d_Ma_isCandidate_59 : decode cd_Ma_isCandidate 59 = .ok (.iconst 2, 1) := by decide +kernel
theorem d_Ma_isCandidate_60 : decode cd_Ma_isCandidate 60 = .ok (.iadd, 1) := by decide +kernel
theorem d_Ma_isCandidate_61 : decode cd_Ma_isCandidate 61 = .ok (.iaload, 1) := by decide +kernel
theorem d_Ma_isCandidate_62 : decode cd_Ma_isCandidate 62 = .ok (.aload_n 0, 1) := by decide +kernel
theorem d_Ma_isCandidate_63 : decode cd_Ma_isCandidate 63 = .ok (.getfield 9, 3) := by decide +kernel
theorem d_Ma_isCandidate_66 : decode cd_Ma_isCandidate 66 = .ok (.iload_n 2, 1) := by decide +kernel
theorem d_Ma_isCandidate_67 : decode cd_Ma_isCandidate 67 = .ok (.iconst 2, 1) := by decide +kernel
theorem d_Ma_isCandidate_68 : decode cd_Ma_isCandidate 68 = .ok (.iadd, 1) := by decide +kernel
theorem d_Ma_isCandidate_69 : decode cd_Ma_isCandidate 69 = .ok (.iaload, 1) := by decide +kernel
theorem d_Ma_isCandidate_70 : decode cd_Ma_isCandidate 70 = .ok (.if_icmp .ne 26, 3) := by decide +kernel
theorem d_Ma_isCandidate_73 : decode cd_Ma_isCandidate 73 = .ok (.aload_n 0, 1) := by decide +kernel
theorem d_Ma_isCandidate_74 : decode cd_Ma_isCandidate 74 = .ok (.getfield 9, 3) := by decide +kernel
theorem d_Ma_isCandidate_77 : decode cd_Ma_isCandidate 77 = .ok (.iload_n 1, 1) := by decide +kernel
theorem d_Ma_isCandidate_78 : decode cd_Ma_isCandidate 78 = .ok (.iconst 3, 1) := by decide +kernel
theorem d_Ma_isCandidate_79 : decode cd_Ma_isCandidate 79 = .ok (.iadd, 1) := by decide +kernel
theorem d_Ma_isCandidate_80 : decode cd_Ma_isCandidate 80 = .ok (.iaload, 1) := by decide +kernel
theorem d_Ma_isCandidate_81 : decode cd_Ma_isCandidate 81 = .ok (.aload_n 0, 1) := by decide +kernel
theorem d_Ma_isCandidate_82 : decode cd_Ma_isCandidate 82 = .ok (.getfield 9, 3) := by decide +kernel
theorem d_Ma_isCandidate_85 : decode cd_Ma_isCandidate 85 = .ok (.iload_n 2, 1) := by decide +kernel
theorem d_Ma_isCandidate_86 : decode cd_Ma_isCandidate 86 = .ok (.iconst 3, 1) := by decide +kernel
theorem d_Ma_isCandidate_87 : decode cd_Ma_isCandidate 87 = .ok (.iadd, 1) := by decide +kernel
theorem d_Ma_isCandidate_88 : decode cd_Ma_isCandidate 88 = .ok (.iaload, 1) := by decide +kernel
theorem d_Ma_isCandidate_89 : decode cd_Ma_isCandidate 89 = .ok (.if_icmp .ne 7, 3) := by decide +kernel
theorem d_Ma_isCandidate_92 : decode cd_Ma_isCandidate 92 = .ok (.iconst 1, 1) := by decide +kernel
theorem d_Ma_isCandidate_93 : decode cd_Ma_isCandidate 93 = .ok (.goto 4, 3) := by decide +kernel
theorem d_Ma_isCandidate_96 : decode cd_Ma_isCandidate 96 = .ok (.iconst 0, 1) := by decide +kernel
theorem d_Ma_isCandidate_97 : decode cd_Ma_isCandidate 97 = .ok (.ireturn, 1) := by decide +kernel
theorem d_Ma_sameFrom_0 : decode cd_Ma_sameFrom 0 = .ok (.iconst 0, 1) := by decide +kernel
theorem d_Ma_sameFrom_1 : decode cd_Ma_sameFrom 1 = .ok (.istore_n 3, 1) := by decide +kernel
theorem d_Ma_sameFrom_2 : decode cd_Ma_sameFrom 2 = .ok (.iload_n 2, 1) := by decide +kernel
theorem d_Ma_sameFrom_3 : decode cd_Ma_sameFrom 3 = .ok (.iload_n 3, 1) := by decide +kernel
theorem d_Ma_sameFrom_4 : decode cd_Ma_sameFrom 4 = .ok (.iadd, 1) := by decide +kernel
theorem d_Ma_sameFrom_5 : decode cd_Ma_sameFrom 5 = .ok (.aload_n 0, 1) := by decide +kernel
theorem d_Ma_sameFrom_6 : decode cd_Ma_sameFrom 6 = .ok (.getfield 40, 3) := by decide +kernel
theorem d_Ma_sameFrom_9 : decode cd_Ma_sameFrom 9 = .ok (.if_icmp .ge 28, 3) := by decide +kernel
theorem d_Ma_sameFrom_12 : decode cd_Ma_sameFrom 12 = .ok (.aload_n 0, 1) := by decide +kernel
theorem d_Ma_sameFrom_13 : decode cd_Ma_sameFrom 13 = .ok (.getfield 9, 3) := by decide +kernel
theorem d_Ma_sameFrom_16 : decode cd_Ma_sameFrom 16 = .ok (.iload_n 1, 1) := by decide +kernel
theorem d_Ma_sameFrom_17 : decode cd_Ma_sameFrom 17 = .ok (.iload_n 3, 1) := by decide +kernel
theorem d_Ma_sameFrom_18 : decode cd_Ma_sameFrom 18 = .ok (.iadd, 1) := by decide +kernel
theorem d_Ma_sameFrom_19 : decode cd_Ma_sameFrom 19 = .ok (.iaload, 1) := by decide +kernel
theorem d_Ma_sameFrom_20 : decode cd_Ma_sameFrom 20 = .ok (.aload_n 0, 1) := by decide +kernel
theorem d_Ma_sameFrom_21 : decode cd_Ma_sameFrom 21 = .ok (.getfield 9, 3) := by decide +kernel
theorem d_Ma_sameFrom_24 : decode cd_Ma_sameFrom 24 = .ok (.iload_n 2, 1) := by decide +kernel
theorem d_Ma_sameFrom_25 : decode cd_Ma_sameFrom 25 = .ok (.iload_n 3, 1) := by decide +kernel
theorem d_Ma_sameFrom_26 : decode cd_Ma_sameFrom 26 = .ok (.iadd, 1) := by decide +kernel
theorem d_Ma_sameFrom_27 : decode cd_Ma_sameFrom 27 = .ok (.iaload, 1) := by decide +kernel
theorem d_Ma_sameFrom_28 : decode cd_Ma_sameFrom 28 = .ok (.if_icmp .ne 9, 3) := by decide +kernel
theorem d_Ma_sameFrom_31 : decode cd_Ma_sameFrom 31 = .ok (.iinc 3 1, 3) := by decide +kernel
theorem d_Ma_sameFrom_34 : decode cd_Ma_sameFrom 34 = .ok (.goto (-32), 3) := by decide +kernel
theorem d_Ma_sameFrom_37 : decode cd_Ma_sameFrom 37 = .ok (.iload_n 3, 1) := by decide +kernel
theorem d_Ma_sameFrom_38 : decode cd_Ma_sameFrom 38 = .ok (.ireturn, 1) := by decide +kernel
theorem d_Ma_sameBefore_0 : decode cd_Ma_sameBefore 0 = .ok (.iconst 0, 1) := by decide +kernel
theorem d_Ma_sameBefore_1 : decode cd_Ma_sameBefore 1 = .ok (.istore_n 3, 1) := by decide +kernel
theorem d_Ma_sameBefore_2 : decode cd_Ma_sameBefore 2 = .ok (.iload_n 3, 1) := by decide +kernel
theorem d_Ma_sameBefore_3 : decode cd_Ma_sameBefore 3 = .ok (.iload_n 2, 1) := by decide +kernel
theorem d_Ma_sameBefore_4 : decode cd_Ma_sameBefore 4 = .ok (.if_icmp .ge 43, 3) := by decide +kernel
theorem d_Ma_sameBefore_7 : decode cd_Ma_sameBefore 7 = .ok (.iload_n 3, 1) := by decide +kernel
theorem d_Ma_sameBefore_8 : decode cd_Ma_sameBefore 8 = .ok (.aload_n 0, 1) := by decide +kernel
theorem d_Ma_sameBefore_9 : decode cd_Ma_sameBefore 9 = .ok (.getfield 67, 3) := by decide +kernel
theorem d_Ma_sameBefore_12 : decode cd_Ma_sameBefore 12 = .ok (.if_icmp .ge 35, 3) := by decide +kernel
theorem d_Ma_sameBefore_15 : decode cd_Ma_sameBefore 15 = .ok (.aload_n 0, 1) := by decide +kernel
theorem d_Ma_sameBefore_16 : decode cd_Ma_sameBefore 16 = .ok (.getfield 9, 3) := by decide +kernel
theorem d_Ma_sameBefore_19 : decode cd_Ma_sameBefore 19 = .ok (.aload_n 0, 1) := by decide +kernel
theorem d_Ma_sameBefore_20 : decode cd_Ma_sameBefore 20 = .ok (.getfield 67, 3) := by decide +kernel
theorem d_Ma_sameBefore_23 : decode cd_Ma_sameBefore 23 = .ok (.iload_n 3, 1) := by decide +kernel
theorem d_Ma_sameBefore_24 : decode cd_Ma_sameBefore 24 = .ok (.isub, 1) := by decide +kernel
theorem d_Ma_sameBefore_25 : decode cd_Ma_sameBefore 25 = .ok (.iconst 1, 1) := by decide +kernel
theorem d_Ma_sameBefore_26 : decode cd_Ma_sameBefore 26 = .ok (.isub, 1) := by decide +kernel
theorem d_Ma_sameBefore_27 : decode cd_Ma_sameBefore 27 = .ok (.iaload, 1) := by decide +kernel
theorem d_Ma_sameBefore_28 : decode cd_Ma_sameBefore 28 = .ok (.aload_n 0, 1) := by decide +kernel
theorem d_Ma_sameBefore_29 : decode cd_Ma_sameBefore 29 = .ok (.getfield 9, 3) := by decide +kernel
theorem d_Ma_sameBefore_32 : decode cd_Ma_sameBefore 32 = .ok (.iload_n 1, 1) := by decide +kernel
theorem d_Ma_sameBefore_33 : decode cd_Ma_sameBefore 33 = .ok (.iload_n 3, 1) := by decide +kernel
theorem d_Ma_sameBefore_34 : decode cd_Ma_sameBefore 34 = .ok (.isub, 1) := by decide +kernel
theorem d_Ma_sameBefore_35 : decode cd_Ma_sameBefore 35 = .ok (.iconst 1, 1) := by decide +kernel
theorem d_Ma_sameBefore_36 : decode cd_Ma_sameBefore 36 = .ok (.isub, 1) := by decide +kernel
theorem d_Ma_sameBefore_37 : decode cd_Ma_sameBefore 37 = .ok (.iaload, 1) := by decide +kernel
theorem d_Ma_sameBefore_38 : decode cd_Ma_sameBefore 38 = .ok (.if_icmp .ne 9, 3) := by decide +kernel
theorem d_Ma_sameBefore_41 : decode cd_Ma_sameBefore 41 = .ok (.iinc 3 1, 3) := by decide +kernel
theorem d_Ma_sameBefore_44 : decode cd_Ma_sameBefore 44 = .ok (.goto (-42), 3) := by decide +kernel
theorem d_Ma_sameBefore_47 : decode cd_Ma_sameBefore 47 = .ok (.iload_n 3, 1) := by decide +kernel
theorem d_Ma_sameBefore_48 : decode cd_Ma_sameBefore 48 = .ok (.ireturn, 1) := by decide +kernel
