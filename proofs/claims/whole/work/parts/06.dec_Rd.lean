theorem d_Rd_init_0 : decode cd_Rd_init 0 = .ok (.aload_n 0, 1) := by decide +kernel
theorem d_Rd_init_1 : decode cd_Rd_init 1 = .ok (.invokespecial 3, 3) := by decide +kernel
theorem d_Rd_init_4 : decode cd_Rd_init 4 = .ok (.aload_n 0, 1) := by decide +kernel
theorem d_Rd_init_5 : decode cd_Rd_init 5 = .ok (.new 9, 3) := by decide +kernel
theorem d_Rd_init_8 : decode cd_Rd_init 8 = .ok (.dup, 1) := by decide +kernel
theorem d_Rd_init_9 : decode cd_Rd_init 9 = .ok (.sipush 300, 3) := by decide +kernel
theorem d_Rd_init_12 : decode cd_Rd_init 12 = .ok (.invokespecial 11, 3) := by decide +kernel
theorem d_Rd_init_15 : decode cd_Rd_init 15 = .ok (.putfield 14, 3) := by decide +kernel
theorem d_Rd_init_18 : decode cd_Rd_init 18 = .ok (.aload_n 0, 1) := by decide +kernel
theorem d_Rd_init_19 : decode cd_Rd_init 19 = .ok (.new 9, 3) := by decide +kernel
theorem d_Rd_init_22 : decode cd_Rd_init 22 = .ok (.dup, 1) := by decide +kernel
theorem d_Rd_init_23 : decode cd_Rd_init 23 = .ok (.sipush 1536, 3) := by decide +kernel
theorem d_Rd_init_26 : decode cd_Rd_init 26 = .ok (.invokespecial 11, 3) := by decide +kernel
theorem d_Rd_init_29 : decode cd_Rd_init 29 = .ok (.putfield 20, 3) := by decide +kernel
theorem d_Rd_init_32 : decode cd_Rd_init 32 = .ok (.aload_n 0, 1) := by decide +kernel
theorem d_Rd_init_33 : decode cd_Rd_init 33 = .ok (.invokestatic 23, 3) := by decide +kernel
theorem d_Rd_init_36 : decode cd_Rd_init 36 = .ok (.putfield 27, 3) := by decide +kernel
theorem d_Rd_init_39 : decode cd_Rd_init 39 = .ok (.aload_n 0, 1) := by decide +kernel
theorem d_Rd_init_40 : decode cd_Rd_init 40 = .ok (.new 30, 3) := by decide +kernel
theorem d_Rd_init_43 : decode cd_Rd_init 43 = .ok (.dup, 1) := by decide +kernel
theorem d_Rd_init_44 : decode cd_Rd_init 44 = .ok (.invokespecial 32, 3) := by decide +kernel
theorem d_Rd_init_47 : decode cd_Rd_init 47 = .ok (.putfield 33, 3) := by decide +kernel
theorem d_Rd_init_50 : decode cd_Rd_init 50 = .ok (.aload_n 0, 1) := by decide +kernel
theorem d_Rd_init_51 : decode cd_Rd_init 51 = .ok (.new 30, 3) := by decide +kernel
theorem d_Rd_init_54 : decode cd_Rd_init 54 = .ok (.dup, 1) := by decide +kernel
theorem d_Rd_init_55 : decode cd_Rd_init 55 = .ok (.invokespecial 32, 3) := by decide +kernel
theorem d_Rd_init_58 : decode cd_Rd_init 58 = .ok (.putfield 37, 3) := by decide +kernel
theorem d_Rd_init_61 : decode cd_Rd_init 61 = .ok (.aload_n 0, 1) := by decide +kernel
theorem d_Rd_init_62 : decode cd_Rd_init 62 = .ok (.new 40, 3) := by decide +kernel
theorem d_Rd_init_65 : decode cd_Rd_init 65 = .ok (.dup, 1) := by decide +kernel
theorem d_Rd_init_66 : decode cd_Rd_init 66 = .ok (.invokespecial 42, 3) := by decide +kernel
theorem d_Rd_init_69 : decode cd_Rd_init 69 = .ok (.putfield 43, 3) := by decide +kernel
theorem d_Rd_init_72 : decode cd_Rd_init 72 = .ok (.aload_n 0, 1) := by decide +kernel
theorem d_Rd_init_73 : decode cd_Rd_init 73 = .ok (.aload_n 0, 1) := by decide +kernel
theorem d_Rd_init_74 : decode cd_Rd_init 74 = .ok (.getfield 27, 3) := by decide +kernel
theorem d_Rd_init_77 : decode cd_Rd_init 77 = .ok (.putfield 47, 3) := by decide +kernel
theorem d_Rd_init_80 : decode cd_Rd_init 80 = .ok (.aload_n 0, 1) := by decide +kernel
theorem d_Rd_init_81 : decode cd_Rd_init 81 = .ok (.aload_n 0, 1) := by decide +kernel
theorem d_Rd_init_82 : decode cd_Rd_init 82 = .ok (.getfield 33, 3) := by decide +kernel
theorem d_Rd_init_85 : decode cd_Rd_init 85 = .ok (.putfield 50, 3) := by decide +kernel
theorem d_Rd_init_88 : decode cd_Rd_init 88 = .ok (.aload_n 0, 1) := by decide +kernel
theorem d_Rd_init_89 : decode cd_Rd_init 89 = .ok (.aload_n 0, 1) := by decide +kernel
theorem d_Rd_init_90 : decode cd_Rd_init 90 = .ok (.getfield 27, 3) := by decide +kernel
theorem d_Rd_init_93 : decode cd_Rd_init 93 = .ok (.putfield 53, 3) := by decide +kernel
theorem d_Rd_init_96 : decode cd_Rd_init 96 = .ok (.aload_n 0, 1) := by decide +kernel
theorem d_Rd_init_97 : decode cd_Rd_init 97 = .ok (.aload_n 0, 1) := by decide +kernel
theorem d_Rd_init_98 : decode cd_Rd_init 98 = .ok (.getfield 14, 3) := by decide +kernel
theorem d_Rd_init_101 : decode cd_Rd_init 101 = .ok (.putfield 56, 3) := by decide +kernel
theorem d_Rd_init_104 : decode cd_Rd_init 104 = .ok (.aload_n 0, 1) := by decide +kernel
theorem d_Rd_init_105 : decode cd_Rd_init 105 = .ok (.aload_n 0, 1) := by decide +kernel
theorem d_Rd_init_106 : decode cd_Rd_init 106 = .ok (.getfield 27, 3) := by decide +kernel
theorem d_Rd_init_109 : decode cd_Rd_init 109 = .ok (.putfield 59, 3) := by decide +kernel
theorem d_Rd_init_112 : decode cd_Rd_init 112 = .ok (.return_, 1) := by decide +kernel
theorem d_Rd_open_0 : decode cd_Rd_open 0 = .ok (.aload_n 0, 1) := by decide +kernel
theorem d_Rd_open_1 : decode cd_Rd_open 1 = .ok (.getfield 33, 3) := by decide +kernel
theorem d_Rd_open_4 : decode cd_Rd_open 4 = .ok (.aload_n 1, 1) := by decide +kernel
theorem d_Rd_open_5 : decode cd_Rd_open 5 = .ok (.getfield 62, 3) := by decide +kernel
theorem d_Rd_open_8 : decode cd_Rd_open 8 = .ok (.iconst 0, 1) := by decide +kernel
theorem d_Rd_open_9 : decode cd_Rd_open 9 = .ok (.aload_n 1, 1) := by decide +kernel
theorem d_Rd_open_10 : decode cd_Rd_open 10 = .ok (.getfield 66, 3) := by decide +kernel
theorem d_Rd_open_13 : decode cd_Rd_open 13 = .ok (.invokevirtual 70, 3) := by decide +kernel
theorem d_Rd_open_16 : decode cd_Rd_open 16 = .ok (.aload_n 0, 1) := by decide +kernel
theorem d_Rd_open_17 : decode cd_Rd_open 17 = .ok (.iconst 4, 1) := by decide +kernel
theorem d_Rd_open_18 : decode cd_Rd_open 18 = .ok (.putfield 74, 3) := by decide +kernel
theorem d_Rd_open_21 : decode cd_Rd_open 21 = .ok (.aload_n 0, 1) := by decide +kernel
theorem d_Rd_open_22 : decode cd_Rd_open 22 = .ok (.iconst 3, 1) := by decide +kernel
theorem d_Rd_open_23 : decode cd_Rd_open 23 = .ok (.putfield 77, 3) := by decide +kernel
theorem d_Rd_open_26 : decode cd_Rd_open 26 = .ok (.aload_n 0, 1) := by decide +kernel
theorem d_Rd_open_27 : decode cd_Rd_open 27 = .ok (.aload_n 0, 1) := by decide +kernel
theorem d_Rd_open_28 : decode cd_Rd_open 28 = .ok (.getfield 27, 3) := by decide +kernel
theorem d_Rd_open_31 : decode cd_Rd_open 31 = .ok (.putfield 47, 3) := by decide +kernel
theorem d_Rd_open_34 : decode cd_Rd_open 34 = .ok (.aload_n 0, 1) := by decide +kernel
theorem d_Rd_open_35 : decode cd_Rd_open 35 = .ok (.aload_n 0, 1) := by decide +kernel
theorem d_Rd_open_36 : decode cd_Rd_open 36 = .ok (.getfield 33, 3) := by decide +kernel
theorem d_Rd_open_39 : decode cd_Rd_open 39 = .ok (.invokestatic 80, 3) := by decide +kernel
theorem d_Rd_open_42 : decode cd_Rd_open 42 = .ok (.putfield 84, 3) := by decide +kernel
theorem d_Rd_open_45 : decode cd_Rd_open 45 = .ok (.aload_n 0, 1) := by decide +kernel
theorem d_Rd_open_46 : decode cd_Rd_open 46 = .ok (.getfield 84, 3) := by decide +kernel
theorem d_Rd_open_49 : decode cd_Rd_open 49 = .ok (.ifCond .le 15, 3) := by decide +kernel
theorem d_Rd_open_52 : decode cd_Rd_open 52 = .ok (.aload_n 0, 1) := by decide +kernel
theorem d_Rd_open_53 : decode cd_Rd_open 53 = .ok (.getfield 84, 3) := by decide +kernel
theorem d_Rd_open_56 : decode cd_Rd_open 56 = .ok (.iconst 1, 1) := by decide +kernel
theorem d_Rd_open_57 : decode cd_Rd_open 57 = .ok (.iand, 1) := by decide +kernel
theorem d_Rd_open_58 : decode cd_Rd_open 58 = .ok (.ifCond .eq 6, 3) := by decide +kernel
theorem d_Rd_open_61 : decode cd_Rd_open 61 = .ok (.bipush (-3), 2) := by decide +kernel
theorem d_Rd_open_63 : decode cd_Rd_open 63 = .ok (.ireturn, 1) := by decide +kernel
theorem d_Rd_open_64 : decode cd_Rd_open 64 = .ok (.aload_n 0, 1) := by decide +kernel
theorem d_Rd_open_65 : decode cd_Rd_open 65 = .ok (.getfield 84, 3) := by decide +kernel
theorem d_Rd_open_68 : decode cd_Rd_open 68 = .ok (.ifCond .eq 11, 3) := by decide +kernel
theorem d_Rd_open_71 : decode cd_Rd_open 71 = .ok (.aload_n 0, 1) := by decide +kernel
theorem d_Rd_open_72 : decode cd_Rd_open 72 = .ok (.getfield 84, 3) := by decide +kernel
theorem d_Rd_open_75 : decode cd_Rd_open 75 = .ok (.iconst 2, 1) := by decide +kernel
theorem d_Rd_open_76 : decode cd_Rd_open 76 = .ok (.if_icmp .ne 7, 3) := by decide +kernel
theorem d_Rd_open_79 : decode cd_Rd_open 79 = .ok (.iconst 0, 1) := by decide +kernel
theorem d_Rd_open_80 : decode cd_Rd_open 80 = .ok (.goto 5, 3) := by decide +kernel
theorem d_Rd_open_83 : decode cd_Rd_open 83 = .ok (.bipush (-2), 2) := by decide +kernel
theorem d_Rd_open_85 : decode cd_Rd_open 85 = .ok (.ireturn, 1) := by decide +kernel
theorem d_Rd_tableFollows_0 : decode cd_Rd_tableFollows 0 = .ok (.aload_n 0, 1) := by decide +kernel
theorem d_Rd_tableFollows_1 : decode cd_Rd_tableFollows 1 = .ok (.getfield 84, 3) := by decide +kernel
theorem d_Rd_tableFollows_4 : decode cd_Rd_tableFollows 4 = .ok (.iconst 2, 1) := by decide +kernel
theorem d_Rd_tableFollows_5 : decode cd_Rd_tableFollows 5 = .ok (.if_icmp .ne 7, 3) := by decide +kernel
theorem d_Rd_tableFollows_8 : decode cd_Rd_tableFollows 8 = .ok (.iconst 1, 1) := by decide +kernel
theorem d_Rd_tableFollows_9 : decode cd_Rd_tableFollows 9 = .ok (.goto 4, 3) := by decide +kernel
theorem d_Rd_tableFollows_12 : decode cd_Rd_tableFollows 12 = .ok (.iconst 0, 1) := by decide +kernel
theorem d_Rd_tableFollows_13 : decode cd_Rd_tableFollows 13 = .ok (.ireturn, 1) := by decide +kernel
theorem d_Rd_enterTable_0 : decode cd_Rd_enterTable 0 = .ok (.aload_n 0, 1) := by decide +kernel
theorem d_Rd_enterTable_1 : decode cd_Rd_enterTable 1 = .ok (.getfield 33, 3) := by decide +kernel
theorem d_Rd_enterTable_4 : decode cd_Rd_enterTable 4 = .ok (.invokevirtual 87, 3) := by decide +kernel
theorem d_Rd_enterTable_7 : decode cd_Rd_enterTable 7 = .ok (.istore_n 1, 1) := by decide +kernel
theorem d_Rd_enterTable_8 : decode cd_Rd_enterTable 8 = .ok (.iload_n 1, 1) := by decide +kernel
theorem d_Rd_enterTable_9 : decode cd_Rd_enterTable 9 = .ok (.iconst 2, 1) := by decide +kernel
theorem d_Rd_enterTable_10 : decode cd_Rd_enterTable 10 = .ok (.if_icmp .lt 14, 3) := by decide +kernel
theorem d_Rd_enterTable_13 : decode cd_Rd_enterTable 13 = .ok (.iload_n 1, 1) := by decide +kernel
theorem d_Rd_enterTable_14 : decode cd_Rd_enterTable 14 = .ok (.aload_n 0, 1) := by decide +kernel
theorem d_Rd_enterTable_15 : decode cd_Rd_enterTable 15 = .ok (.getfield 33, 3) := by decide +kernel
theorem d_Rd_enterTable_18 : decode cd_Rd_enterTable 18 = .ok (.invokevirtual 91, 3) := by decide +kernel
theorem d_Rd_enterTable_21 : decode cd_Rd_enterTable 21 = .ok (.if_icmp .le 6, 3) := by decide +kernel
theorem d_Rd_enterTable_24 : decode cd_Rd_enterTable 24 = .ok (.bipush (-2), 2) := by decide +kernel
theorem d_Rd_enterTable_26 : decode cd_Rd_enterTable 26 = .ok (.ireturn, 1) := by decide +kernel
theorem d_Rd_enterTable_27 : decode cd_Rd_enterTable 27 = .ok (.aload_n 0, 1) := by decide +kernel
theorem d_Rd_enterTable_28 : decode cd_Rd_enterTable 28 = .ok (.getfield 37, 3) := by decide +kernel
theorem d_Rd_enterTable_31 : decode cd_Rd_enterTable 31 = .ok (.aload_n 0, 1) := by decide +kernel
theorem d_Rd_enterTable_32 : decode cd_Rd_enterTable 32 = .ok (.getfield 33, 3) := by decide +kernel
theorem d_Rd_enterTable_35 : decode cd_Rd_enterTable 35 = .ok (.getfield 94, 3) := by decide +kernel
theorem d_Rd_enterTable_38 : decode cd_Rd_enterTable 38 = .ok (.aload_n 0, 1) := by decide +kernel
theorem d_Rd_enterTable_39 : decode cd_Rd_enterTable 39 = .ok (.getfield 33, 3) := by decide +kernel
theorem d_Rd_enterTable_42 : decode cd_Rd_enterTable 42 = .ok (.getfield 95, 3) := by decide +kernel
theorem d_Rd_enterTable_45 : decode cd_Rd_enterTable 45 = .ok (.iload_n 1, 1) := by decide +kernel
theorem d_Rd_enterTable_46 : decode cd_Rd_enterTable 46 = .ok (.invokevirtual 70, 3) := by decide +kernel
theorem d_Rd_enterTable_49 : decode cd_Rd_enterTable 49 = .ok (.aload_n 0, 1) := by decide +kernel
theorem d_Rd_enterTable_50 : decode cd_Rd_enterTable 50 = .ok (.getfield 33, 3) := by decide +kernel
theorem d_Rd_enterTable_53 : decode cd_Rd_enterTable 53 = .ok (.dup, 1) := by decide +kernel
theorem d_Rd_enterTable_54 : decode cd_Rd_enterTable 54 = .ok (.getfield 95, 3) := by decide +kernel
theorem d_Rd_enterTable_57 : decode cd_Rd_enterTable 57 = .ok (.iload_n 1, 1) := by decide +kernel
theorem d_Rd_enterTable_58 : decode cd_Rd_enterTable 58 = .ok (.iadd, 1) := by decide +kernel
theorem d_Rd_enterTable_59 : decode cd_Rd_enterTable 59 = .ok (.putfield 95, 3) := by decide +kernel
theorem d_Rd_enterTable_62 : decode cd_Rd_enterTable 62 = .ok (.aload_n 0, 1) := by decide +kernel
theorem d_Rd_enterTable_63 : decode cd_Rd_enterTable 63 = .ok (.aload_n 0, 1) := by decide +kernel
theorem d_Rd_enterTable_64 : decode cd_Rd_enterTable 64 = .ok (.getfield 37, 3) := by decide +kernel
theorem d_Rd_enterTable_67 : decode cd_Rd_enterTable 67 = .ok (.invokevirtual 98, 3) := by decide +kernel
theorem d_Rd_enterTable_70 : decode cd_Rd_enterTable 70 = .ok (.putfield 74, 3) := by decide +kernel
theorem d_Rd_enterTable_73 : decode cd_Rd_enterTable 73 = .ok (.aload_n 0, 1) := by decide +kernel
theorem d_Rd_enterTable_74 : decode cd_Rd_enterTable 74 = .ok (.aload_n 0, 1) := by decide +kernel
theorem d_Rd_enterTable_75 : decode cd_Rd_enterTable 75 = .ok (.getfield 37, 3) := by decide +kernel
theorem d_Rd_enterTable_78 : decode cd_Rd_enterTable 78 = .ok (.invokevirtual 98, 3) := by decide +kernel
theorem d_Rd_enterTable_81 : decode cd_Rd_enterTable 81 = .ok (.putfield 77, 3) := by decide +kernel
theorem d_Rd_enterTable_84 : decode cd_Rd_enterTable 84 = .ok (.aload_n 0, 1) := by decide +kernel
theorem d_Rd_enterTable_85 : decode cd_Rd_enterTable 85 = .ok (.getfield 74, 3) := by decide +kernel
theorem d_Rd_enterTable_88 : decode cd_Rd_enterTable 88 = .ok (.bipush 8, 2) := by decide +kernel
theorem d_Rd_enterTable_90 : decode cd_Rd_enterTable 90 = .ok (.if_icmp .gt 21, 3) := by decide +kernel
theorem d_Rd_enterTable_93 : decode cd_Rd_enterTable 93 = .ok (.aload_n 0, 1) := by decide +kernel
theorem d_Rd_enterTable_94 : decode cd_Rd_enterTable 94 = .ok (.getfield 77, 3) := by decide +kernel
theorem d_Rd_enterTable_97 : decode cd_Rd_enterTable 97 = .ok (.iconst 4, 1) := by decide +kernel
theorem d_Rd_enterTable_98 : decode cd_Rd_enterTable 98 = .ok (.if_icmp .gt 13, 3) := by decide +kernel
theorem d_Rd_enterTable_101 : decode cd_Rd_enterTable 101 = .ok (.aload_n 0, 1) := by decide +kernel
theorem d_Rd_enterTable_102 : decode cd_Rd_enterTable 102 = .ok (.getfield 37, 3) := by decide +kernel
theorem d_Rd_enterTable_105 : decode cd_Rd_enterTable 105 = .ok (.invokestatic 80, 3) := by decide +kernel
theorem d_Rd_enterTable_108 : decode cd_Rd_enterTable 108 = .ok (.ifCond .eq 6, 3) := by decide +kernel
theorem d_Rd_enterTable_111 : decode cd_Rd_enterTable 111 = .ok (.bipush (-5), 2) := by decide +kernel
theorem d_Rd_enterTable_113 : decode cd_Rd_enterTable 113 = .ok (.ireturn, 1) := by decide +kernel
theorem d_Rd_enterTable_114 : decode cd_Rd_enterTable 114 = .ok (.aload_n 0, 1) := by decide +kernel
theorem d_Rd_enterTable_115 : decode cd_Rd_enterTable 115 = .ok (.aload_n 0, 1) := by decide +kernel
theorem d_Rd_enterTable_116 : decode cd_Rd_enterTable 116 = .ok (.getfield 37, 3) := by decide +kernel
theorem d_Rd_enterTable_119 : decode cd_Rd_enterTable 119 = .ok (.putfield 50, 3) := by decide +kernel
theorem d_Rd_enterTable_122 : decode cd_Rd_enterTable 122 = .ok (.aload_n 0, 1) := by decide +kernel
theorem d_Rd_enterTable_123 : decode cd_Rd_enterTable 123 = .ok (.aload_n 0, 1) := by decide +kernel
theorem d_Rd_enterTable_124 : decode cd_Rd_enterTable 124 = .ok (.getfield 27, 3) := by decide +kernel
theorem d_Rd_enterTable_127 : decode cd_Rd_enterTable 127 = .ok (.putfield 53, 3) := by decide +kernel
theorem d_Rd_enterTable_130 : decode cd_Rd_enterTable 130 = .ok (.aload_n 0, 1) := by decide +kernel
theorem d_Rd_enterTable_131 : decode cd_Rd_enterTable 131 = .ok (.aload_n 0, 1) := by decide +kernel
theorem d_Rd_enterTable_132 : decode cd_Rd_enterTable 132 = .ok (.getfield 20, 3) := by decide +kernel
theorem d_Rd_enterTable_135 : decode cd_Rd_enterTable 135 = .ok (.putfield 56, 3) := by decide +kernel
theorem d_Rd_enterTable_138 : decode cd_Rd_enterTable 138 = .ok (.aload_n 0, 1) := by decide +kernel
theorem d_Rd_enterTable_139 : decode cd_Rd_enterTable 139 = .ok (.aload_n 0, 1) := by decide +kernel
theorem d_Rd_enterTable_140 : decode cd_Rd_enterTable 140 = .ok (.getfield 27, 3) := by decide +kernel
theorem d_Rd_enterTable_143 : decode cd_Rd_enterTable 143 = .ok (.putfield 59, 3) := by decide +kernel
theorem d_Rd_enterTable_146 : decode cd_Rd_enterTable 146 = .ok (.aload_n 0, 1) := by decide +kernel
theorem d_Rd_enterTable_147 : decode cd_Rd_enterTable 147 = .ok (.iconst 4, 1) := by decide +kernel
theorem d_Rd_enterTable_148 : decode cd_Rd_enterTable 148 = .ok (.putfield 101, 3) := by decide +kernel
theorem d_Rd_enterTable_151 : decode cd_Rd_enterTable 151 = .ok (.aload_n 0, 1) := by decide +kernel
theorem d_Rd_enterTable_152 : decode cd_Rd_enterTable 152 = .ok (.iconst 3, 1) := by decide +kernel
theorem d_Rd_enterTable_153 : decode cd_Rd_enterTable 153 = .ok (.putfield 104, 3) := by decide +kernel
theorem d_Rd_enterTable_156 : decode cd_Rd_enterTable 156 = .ok (.iconst 0, 1) := by decide +kernel
theorem d_Rd_enterTable_157 : decode cd_Rd_enterTable 157 = .ok (.ireturn, 1) := by decide +kernel
theorem d_Rd_leaveTable_0 : decode cd_Rd_leaveTable 0 = .ok (.aload_n 0, 1) := by decide +kernel
theorem d_Rd_leaveTable_1 : decode cd_Rd_leaveTable 1 = .ok (.aload_n 0, 1) := by decide +kernel
theorem d_Rd_leaveTable_2 : decode cd_Rd_leaveTable 2 = .ok (.getfield 20, 3) := by decide +kernel
theorem d_Rd_leaveTable_5 : decode cd_Rd_leaveTable 5 = .ok (.putfield 47, 3) := by decide +kernel
theorem d_Rd_leaveTable_8 : decode cd_Rd_leaveTable 8 = .ok (.iload_n 1, 1) := by decide +kernel
theorem d_Rd_leaveTable_9 : decode cd_Rd_leaveTable 9 = .ok (.ifCond .ne 17, 3) := by decide +kernel
theorem d_Rd_leaveTable_12 : decode cd_Rd_leaveTable 12 = .ok (.aload_n 0, 1) := by decide +kernel
theorem d_Rd_leaveTable_13 : decode cd_Rd_leaveTable 13 = .ok (.getfield 20, 3) := by decide +kernel
theorem d_Rd_leaveTable_16 : decode cd_Rd_leaveTable 16 = .ok (.invokestatic 107, 3) := by decide +kernel
theorem d_Rd_leaveTable_19 : decode cd_Rd_leaveTable 19 = .ok (.ifCond .eq 7, 3) := by decide +kernel
theorem d_Rd_leaveTable_22 : decode cd_Rd_leaveTable 22 = .ok (.iconst 0, 1) := by decide +kernel
theorem d_Rd_leaveTable_23 : decode cd_Rd_leaveTable 23 = .ok (.goto 5, 3) := by decide +kernel
theorem d_Rd_leaveTable_26 : decode cd_Rd_leaveTable 26 = .ok (.bipush (-5), 2) := by decide +kernel
theorem d_Rd_leaveTable_28 : decode cd_Rd_leaveTable 28 = .ok (.ireturn, 1) := by decide +kernel
theorem d_Rd_enterResult_0 : decode cd_Rd_enterResult 0 = .ok (.aload_n 0, 1) := by decide +kernel
theorem d_Rd_enterResult_1 : decode cd_Rd_enterResult 1 = .ok (.aload_n 0, 1) := by decide +kernel
theorem d_Rd_enterResult_2 : decode cd_Rd_enterResult 2 = .ok (.getfield 33, 3) := by decide +kernel
theorem d_Rd_enterResult_5 : decode cd_Rd_enterResult 5 = .ok (.putfield 50, 3) := by decide +kernel
theorem d_Rd_enterResult_8 : decode cd_Rd_enterResult 8 = .ok (.aload_n 0, 1) := by decide +kernel
theorem d_Rd_enterResult_9 : decode cd_Rd_enterResult 9 = .ok (.aload_n 1, 1) := by decide +kernel
theorem d_Rd_enterResult_10 : decode cd_Rd_enterResult 10 = .ok (.putfield 53, 3) := by decide +kernel
theorem d_Rd_enterResult_13 : decode cd_Rd_enterResult 13 = .ok (.aload_n 0, 1) := by decide +kernel
theorem d_Rd_enterResult_14 : decode cd_Rd_enterResult 14 = .ok (.aload_n 0, 1) := by decide +kernel
theorem d_Rd_enterResult_15 : decode cd_Rd_enterResult 15 = .ok (.getfield 14, 3) := by decide +kernel
theorem d_Rd_enterResult_18 : decode cd_Rd_enterResult 18 = .ok (.putfield 56, 3) := by decide +kernel
theorem d_Rd_enterResult_21 : decode cd_Rd_enterResult 21 = .ok (.aload_n 0, 1) := by decide +kernel
theorem d_Rd_enterResult_22 : decode cd_Rd_enterResult 22 = .ok (.aload_n 0, 1) := by decide +kernel
theorem d_Rd_enterResult_23 : decode cd_Rd_enterResult 23 = .ok (.getfield 47, 3) := by decide +kernel
theorem d_Rd_enterResult_26 : decode cd_Rd_enterResult 26 = .ok (.putfield 59, 3) := by decide +kernel
theorem d_Rd_enterResult_29 : decode cd_Rd_enterResult 29 = .ok (.aload_n 0, 1) := by decide +kernel
theorem d_Rd_enterResult_30 : decode cd_Rd_enterResult 30 = .ok (.aload_n 0, 1) := by decide +kernel
theorem d_Rd_enterResult_31 : decode cd_Rd_enterResult 31 = .ok (.getfield 74, 3) := by decide +kernel
theorem d_Rd_enterResult_34 : decode cd_Rd_enterResult 34 = .ok (.putfield 101, 3) := by decide +kernel
theorem d_Rd_enterResult_37 : decode cd_Rd_enterResult 37 = .ok (.aload_n 0, 1) := by decide +kernel
theorem d_Rd_enterResult_38 : decode cd_Rd_enterResult 38 = .ok (.aload_n 0, 1) := by decide +kernel
theorem d_Rd_enterResult_39 : decode cd_Rd_enterResult 39 = .ok (.getfield 77, 3) := by decide +kernel
theorem d_Rd_enterResult_42 : decode cd_Rd_enterResult 42 = .ok (.putfield 104, 3) := by decide +kernel
theorem d_Rd_enterResult_45 : decode cd_Rd_enterResult 45 = .ok (.return_, 1) := by decide +kernel
theorem d_Rd_readWindows_0 : decode cd_Rd_readWindows 0 = .ok (.aload_n 0, 1) := by decide +kernel
theorem d_Rd_readWindows_1 : decode cd_Rd_readWindows 1 = .ok (.getfield 56, 3) := by decide +kernel
theorem d_Rd_readWindows_4 : decode cd_Rd_readWindows 4 = .ok (.iconst 0, 1) := by decide +kernel
theorem d_Rd_readWindows_5 : decode cd_Rd_readWindows 5 = .ok (.putfield 66, 3) := by decide +kernel
theorem d_Rd_readWindows_8 : decode cd_Rd_readWindows 8 = .ok (.iconst 0, 1) := by decide +kernel
theorem d_Rd_readWindows_9 : decode cd_Rd_readWindows 9 = .ok (.istore_n 1, 1) := by decide +kernel
theorem d_Rd_readWindows_10 : decode cd_Rd_readWindows 10 = .ok (.iconst 0, 1) := by decide +kernel
theorem d_Rd_readWindows_11 : decode cd_Rd_readWindows 11 = .ok (.istore_n 2, 1) := by decide +kernel
theorem d_Rd_readWindows_12 : decode cd_Rd_readWindows 12 = .ok (.iload_n 2, 1) := by decide +kernel
theorem d_Rd_readWindows_13 : decode cd_Rd_readWindows 13 = .ok (.sipush 700, 3) := by decide +kernel
theorem d_Rd_readWindows_16 : decode cd_Rd_readWindows 16 = .ok (.if_icmp .ge 67, 3) := by decide +kernel
theorem d_Rd_readWindows_19 : decode cd_Rd_readWindows 19 = .ok (.iload_n 1, 1) := by decide +kernel
theorem d_Rd_readWindows_20 : decode cd_Rd_readWindows 20 = .ok (.ifCond .ne 63, 3) := by decide +kernel
theorem d_Rd_readWindows_23 : decode cd_Rd_readWindows 23 = .ok (.aload_n 0, 1) := by decide +kernel
theorem d_Rd_readWindows_24 : decode cd_Rd_readWindows 24 = .ok (.getfield 50, 3) := by decide +kernel
theorem d_Rd_readWindows_27 : decode cd_Rd_readWindows 27 = .ok (.invokevirtual 91, 3) := by decide +kernel
theorem d_Rd_readWindows_30 : decode cd_Rd_readWindows 30 = .ok (.ifCond .le 53, 3) := by decide +kernel
theorem d_Rd_readWindows_33 : decode cd_Rd_readWindows 33 = .ok (.aload_n 0, 1) := by decide +kernel
theorem d_Rd_readWindows_34 : decode cd_Rd_readWindows 34 = .ok (.getfield 43, 3) := by decide +kernel
theorem d_Rd_readWindows_37 : decode cd_Rd_readWindows 37 = .ok (.aload_n 0, 1) := by decide +kernel
theorem d_Rd_readWindows_38 : decode cd_Rd_readWindows 38 = .ok (.getfield 50, 3) := by decide +kernel
theorem d_Rd_readWindows_41 : decode cd_Rd_readWindows 41 = .ok (.aload_n 0, 1) := by decide +kernel
theorem d_Rd_readWindows_42 : decode cd_Rd_readWindows 42 = .ok (.getfield 53, 3) := by decide +kernel
theorem d_Rd_readWindows_45 : decode cd_Rd_readWindows 45 = .ok (.aload_n 0, 1) := by decide +kernel
theorem d_Rd_readWindows_46 : decode cd_Rd_readWindows 46 = .ok (.getfield 56, 3) := by decide +kernel
theorem d_Rd_readWindows_49 : decode cd_Rd_readWindows 49 = .ok (.invokevirtual 111, 3) := by decide +kernel
theorem d_Rd_readWindows_52 : decode cd_Rd_readWindows 52 = .ok (.istore_n 1, 1) := by decide +kernel
theorem d_Rd_readWindows_53 : decode cd_Rd_readWindows 53 = .ok (.iload_n 1, 1) := by decide +kernel
theorem d_Rd_readWindows_54 : decode cd_Rd_readWindows 54 = .ok (.ifCond .ne 23, 3) := by decide +kernel
theorem d_Rd_readWindows_57 : decode cd_Rd_readWindows 57 = .ok (.aload_n 0, 1) := by decide +kernel
theorem d_Rd_readWindows_58 : decode cd_Rd_readWindows 58 = .ok (.getfield 43, 3) := by decide +kernel
theorem d_Rd_readWindows_61 : decode cd_Rd_readWindows 61 = .ok (.aload_n 0, 1) := by decide +kernel
theorem d_Rd_readWindows_62 : decode cd_Rd_readWindows 62 = .ok (.getfield 59, 3) := by decide +kernel
theorem d_Rd_readWindows_65 : decode cd_Rd_readWindows 65 = .ok (.aload_n 0, 1) := by decide +kernel
theorem d_Rd_readWindows_66 : decode cd_Rd_readWindows 66 = .ok (.getfield 101, 3) := by decide +kernel
theorem d_Rd_readWindows_69 : decode cd_Rd_readWindows 69 = .ok (.aload_n 0, 1) := by decide +kernel
theorem d_Rd_readWindows_70 : decode cd_Rd_readWindows 70 = .ok (.getfield 104, 3) := by decide +kernel
theorem d_Rd_readWindows_73 : decode cd_Rd_readWindows 73 = .ok (.invokevirtual 115, 3) := by decide +kernel
theorem d_Rd_readWindows_76 : decode cd_Rd_readWindows 76 = .ok (.istore_n 1, 1) := by decide +kernel
theorem d_Rd_readWindows_77 : decode cd_Rd_readWindows 77 = .ok (.iinc 2 1, 3) := by decide +kernel
theorem d_Rd_readWindows_80 : decode cd_Rd_readWindows 80 = .ok (.goto (-68), 3) := by decide +kernel
theorem d_Rd_readWindows_83 : decode cd_Rd_readWindows 83 = .ok (.iload_n 1, 1) := by decide +kernel
theorem d_Rd_readWindows_84 : decode cd_Rd_readWindows 84 = .ok (.ireturn, 1) := by decide +kernel
theorem d_Rd_readBeginning_0 : decode cd_Rd_readBeginning 0 = .ok (.aload_n 0, 1) := by decide +kernel
theorem d_Rd_readBeginning_1 : decode cd_Rd_readBeginning 1 = .ok (.invokevirtual 98, 3) := by decide +kernel
theorem d_Rd_readBeginning_4 : decode cd_Rd_readBeginning 4 = .ok (.sipush 214, 3) := by decide +kernel
theorem d_Rd_readBeginning_7 : decode cd_Rd_readBeginning 7 = .ok (.if_icmp .ne 34, 3) := by decide +kernel
theorem d_Rd_readBeginning_10 : decode cd_Rd_readBeginning 10 = .ok (.aload_n 0, 1) := by decide +kernel
theorem d_Rd_readBeginning_11 : decode cd_Rd_readBeginning 11 = .ok (.invokevirtual 98, 3) := by decide +kernel
theorem d_Rd_readBeginning_14 : decode cd_Rd_readBeginning 14 = .ok (.sipush 195, 3) := by decide +kernel
theorem d_Rd_readBeginning_17 : decode cd_Rd_readBeginning 17 = .ok (.if_icmp .ne 24, 3) := by decide +kernel
theorem d_Rd_readBeginning_20 : decode cd_Rd_readBeginning 20 = .ok (.aload_n 0, 1) := by decide +kernel
theorem d_Rd_readBeginning_21 : decode cd_Rd_readBeginning 21 = .ok (.invokevirtual 98, 3) := by decide +kernel
theorem d_Rd_readBeginning_24 : decode cd_Rd_readBeginning 24 = .ok (.sipush 196, 3) := by decide +kernel
theorem d_Rd_readBeginning_27 : decode cd_Rd_readBeginning 27 = .ok (.if_icmp .ne 14, 3) := by decide +kernel
theorem d_Rd_readBeginning_30 : decode cd_Rd_readBeginning 30 = .ok (.aload_n 0, 1) := by decide +kernel
theorem d_Rd_readBeginning_31 : decode cd_Rd_readBeginning 31 = .ok (.invokevirtual 98, 3) := by decide +kernel
theorem d_Rd_readBeginning_34 : decode cd_Rd_readBeginning 34 = .ok (.ifCond .ne 7, 3) := by decide +kernel
theorem d_Rd_readBeginning_37 : decode cd_Rd_readBeginning 37 = .ok (.iconst 1, 1) := by decide +kernel
theorem d_Rd_readBeginning_38 : decode cd_Rd_readBeginning 38 = .ok (.goto 4, 3) := by decide +kernel
theorem d_Rd_readBeginning_41 : decode cd_Rd_readBeginning 41 = .ok (.iconst 0, 1) := by decide +kernel
theorem d_Rd_readBeginning_42 : decode cd_Rd_readBeginning 42 = .ok (.istore_n 1, 1) := by decide +kernel
theorem d_Rd_readBeginning_43 : decode cd_Rd_readBeginning 43 = .ok (.iload_n 1, 1) := by decide +kernel
theorem d_Rd_readBeginning_44 : decode cd_Rd_readBeginning 44 = .ok (.ifCond .eq 10, 3) := by decide +kernel
theorem d_Rd_readBeginning_47 : decode cd_Rd_readBeginning 47 = .ok (.aload_n 0, 1) := by decide +kernel
theorem d_Rd_readBeginning_48 : decode cd_Rd_readBeginning 48 = .ok (.invokevirtual 98, 3) := by decide +kernel
theorem d_Rd_readBeginning_51 : decode cd_Rd_readBeginning 51 = .ok (.goto 4, 3) := by decide +kernel
theorem d_Rd_readBeginning_54 : decode cd_Rd_readBeginning 54 = .ok (.iconst (-1), 1) := by decide +kernel
theorem d_Rd_readBeginning_55 : decode cd_Rd_readBeginning 55 = .ok (.ireturn, 1) := by decide +kernel
theorem d_Rd_isTable_0 : decode cd_Rd_isTable 0 = .ok (.aload_n 0, 1) := by decide +kernel
theorem d_Rd_isTable_1 : decode cd_Rd_isTable 1 = .ok (.getfield 66, 3) := by decide +kernel
theorem d_Rd_isTable_4 : decode cd_Rd_isTable 4 = .ok (.sipush 1536, 3) := by decide +kernel
theorem d_Rd_isTable_7 : decode cd_Rd_isTable 7 = .ok (.if_icmp .eq 5, 3) := by decide +kernel
theorem d_Rd_isTable_10 : decode cd_Rd_isTable 10 = .ok (.iconst 0, 1) := by decide +kernel
theorem d_Rd_isTable_11 : decode cd_Rd_isTable 11 = .ok (.ireturn, 1) := by decide +kernel
theorem d_Rd_isTable_12 : decode cd_Rd_isTable 12 = .ok (.iconst 0, 1) := by decide +kernel
theorem d_Rd_isTable_13 : decode cd_Rd_isTable 13 = .ok (.istore_n 1, 1) := by decide +kernel
theorem d_Rd_isTable_14 : decode cd_Rd_isTable 14 = .ok (.iload_n 1, 1) := by decide +kernel
theorem d_Rd_isTable_15 : decode cd_Rd_isTable 15 = .ok (.sipush 512, 3) := by decide +kernel
theorem d_Rd_isTable_18 : decode cd_Rd_isTable 18 = .ok (.if_icmp .ge 21, 3) := by decide +kernel
theorem d_Rd_isTable_21 : decode cd_Rd_isTable 21 = .ok (.aload_n 0, 1) := by decide +kernel
theorem d_Rd_isTable_22 : decode cd_Rd_isTable 22 = .ok (.getfield 62, 3) := by decide +kernel
theorem d_Rd_isTable_25 : decode cd_Rd_isTable 25 = .ok (.iload_n 1, 1) := by decide +kernel
theorem d_Rd_isTable_26 : decode cd_Rd_isTable 26 = .ok (.iaload, 1) := by decide +kernel
theorem d_Rd_isTable_27 : decode cd_Rd_isTable 27 = .ok (.iconst 3, 1) := by decide +kernel
theorem d_Rd_isTable_28 : decode cd_Rd_isTable 28 = .ok (.if_icmp .le 5, 3) := by decide +kernel
theorem d_Rd_isTable_31 : decode cd_Rd_isTable 31 = .ok (.iconst 0, 1) := by decide +kernel
theorem d_Rd_isTable_32 : decode cd_Rd_isTable 32 = .ok (.ireturn, 1) := by decide +kernel
theorem d_Rd_isTable_33 : decode cd_Rd_isTable 33 = .ok (.iinc 1 1, 3) := by decide +kernel
theorem d_Rd_isTable_36 : decode cd_Rd_isTable 36 = .ok (.goto (-22), 3) := by decide +kernel
theorem d_Rd_isTable_39 : decode cd_Rd_isTable 39 = .ok (.iconst 1, 1) := by decide +kernel
theorem d_Rd_isTable_40 : decode cd_Rd_isTable 40 = .ok (.ireturn, 1) := by decide +kernel
theorem d_Rd_makeStandardTable_0 : decode cd_Rd_makeStandardTable 0 = .ok (.new 9, 3) := by decide +kernel
theorem d_Rd_makeStandardTable_3 : decode cd_Rd_makeStandardTable 3 = .ok (.dup, 1) := by decide +kernel
theorem d_Rd_makeStandardTable_4 : decode cd_Rd_makeStandardTable 4 = .ok (.sipush 1536, 3) := by decide +kernel
theorem d_Rd_makeStandardTable_7 : decode cd_Rd_makeStandardTable 7 = .ok (.invokespecial 11, 3) := by decide +kernel
theorem d_Rd_makeStandardTable_10 : decode cd_Rd_makeStandardTable 10 = .ok (.astore_n 0, 1) := by decide +kernel
theorem d_Rd_makeStandardTable_11 : decode cd_Rd_makeStandardTable 11 = .ok (.aload_n 0, 1) := by decide +kernel
theorem d_Rd_makeStandardTable_12 : decode cd_Rd_makeStandardTable 12 = .ok (.sipush 1536, 3) := by decide +kernel
theorem d_Rd_makeStandardTable_15 : decode cd_Rd_makeStandardTable 15 = .ok (.putfield 66, 3) := by decide +kernel
theorem d_Rd_makeStandardTable_18 : decode cd_Rd_makeStandardTable 18 = .ok (.aload_n 0, 1) := by decide +kernel
theorem d_Rd_makeStandardTable_19 : decode cd_Rd_makeStandardTable 19 = .ok (.iconst 0, 1) := by decide +kernel
theorem d_Rd_makeStandardTable_20 : decode cd_Rd_makeStandardTable 20 = .ok (.iconst 2, 1) := by decide +kernel
theorem d_Rd_makeStandardTable_21 : decode cd_Rd_makeStandardTable 21 = .ok (.iconst 0, 1) := by decide +kernel
theorem d_Rd_makeStandardTable_22 : decode cd_Rd_makeStandardTable 22 = .ok (.iconst 0, 1) := by decide +kernel
theorem d_Rd_makeStandardTable_23 : decode cd_Rd_makeStandardTable 23 = .ok (.invokestatic 119, 3) := by decide +kernel
theorem d_Rd_makeStandardTable_26 : decode cd_Rd_makeStandardTable 26 = .ok (.iconst 0, 1) := by decide +kernel
theorem d_Rd_makeStandardTable_27 : decode cd_Rd_makeStandardTable 27 = .ok (.istore_n 1, 1) := by decide +kernel
theorem d_Rd_makeStandardTable_28 : decode cd_Rd_makeStandardTable 28 = .ok (.iload_n 1, 1) := by decide +kernel
theorem d_Rd_makeStandardTable_29 : decode cd_Rd_makeStandardTable 29 = .ok (.bipush 17, 2) := by decide +kernel
theorem d_Rd_makeStandardTable_31 : decode cd_Rd_makeStandardTable 31 = .ok (.if_icmp .gt 19, 3) := by decide +kernel
theorem d_Rd_makeStandardTable_34 : decode cd_Rd_makeStandardTable 34 = .ok (.aload_n 0, 1) := by decide +kernel
theorem d_Rd_makeStandardTable_35 : decode cd_Rd_makeStandardTable 35 = .ok (.iconst 1, 1) := by decide +kernel
theorem d_Rd_makeStandardTable_36 : decode cd_Rd_makeStandardTable 36 = .ok (.iload_n 1, 1) := by decide +kernel
theorem d_Rd_makeStandardTable_37 : decode cd_Rd_makeStandardTable 37 = .ok (.iadd, 1) := by decide +kernel
theorem d_Rd_makeStandardTable_38 : decode cd_Rd_makeStandardTable 38 = .ok (.iconst 1, 1) := by decide +kernel
theorem d_Rd_makeStandardTable_39 : decode cd_Rd_makeStandardTable 39 = .ok (.iload_n 1, 1) := by decide +kernel
theorem d_Rd_makeStandardTable_40 : decode cd_Rd_makeStandardTable 40 = .ok (.iconst 0, 1) := by decide +kernel
theorem d_Rd_makeStandardTable_41 : decode cd_Rd_makeStandardTable 41 = .ok (.invokestatic 119, 3) := by decide +kernel
theorem d_Rd_makeStandardTable_44 : decode cd_Rd_makeStandardTable 44 = .ok (.iinc 1 1, 3) := by decide +kernel
theorem d_Rd_makeStandardTable_47 : decode cd_Rd_makeStandardTable 47 = .ok (.goto (-19), 3) := by decide +kernel
theorem d_Rd_makeStandardTable_50 : decode cd_Rd_makeStandardTable 50 = .ok (.iconst 0, 1) := by decide +kernel
theorem d_Rd_makeStandardTable_51 : decode cd_Rd_makeStandardTable 51 = .ok (.istore_n 1, 1) := by decide +kernel
theorem d_Rd_makeStandardTable_52 : decode cd_Rd_makeStandardTable 52 = .ok (.iload_n 1, 1) := by decide +kernel
theorem d_Rd_makeStandardTable_53 : decode cd_Rd_makeStandardTable 53 = .ok (.bipush 8, 2) := by decide +kernel
theorem d_Rd_makeStandardTable_55 : decode cd_Rd_makeStandardTable 55 = .ok (.if_icmp .gt 84, 3) := by decide +kernel
theorem d_Rd_makeStandardTable_58 : decode cd_Rd_makeStandardTable 58 = .ok (.aload_n 0, 1) := by decide +kernel
theorem d_Rd_makeStandardTable_59 : decode cd_Rd_makeStandardTable 59 = .ok (.bipush 19, 2) := by decide +kernel
theorem d_Rd_makeStandardTable_61 : decode cd_Rd_makeStandardTable 61 = .ok (.bipush 16, 2) := by decide +kernel
theorem d_Rd_makeStandardTable_63 : decode cd_Rd_makeStandardTable 63 = .ok (.iload_n 1, 1) := by decide +kernel
theorem d_Rd_makeStandardTable_64 : decode cd_Rd_makeStandardTable 64 = .ok (.imul, 1) := by decide +kernel
theorem d_Rd_makeStandardTable_65 : decode cd_Rd_makeStandardTable 65 = .ok (.iadd, 1) := by decide +kernel
theorem d_Rd_makeStandardTable_66 : decode cd_Rd_makeStandardTable 66 = .ok (.iconst 3, 1) := by decide +kernel
theorem d_Rd_makeStandardTable_67 : decode cd_Rd_makeStandardTable 67 = .ok (.iconst 0, 1) := by decide +kernel
theorem d_Rd_makeStandardTable_68 : decode cd_Rd_makeStandardTable 68 = .ok (.iload_n 1, 1) := by decide +kernel
theorem d_Rd_makeStandardTable_69 : decode cd_Rd_makeStandardTable 69 = .ok (.invokestatic 119, 3) := by decide +kernel
theorem d_Rd_makeStandardTable_72 : decode cd_Rd_makeStandardTable 72 = .ok (.iconst 4, 1) := by decide +kernel
theorem d_Rd_makeStandardTable_73 : decode cd_Rd_makeStandardTable 73 = .ok (.istore_n 2, 1) := by decide +kernel
theorem d_Rd_makeStandardTable_74 : decode cd_Rd_makeStandardTable 74 = .ok (.iload_n 2, 1) := by decide +kernel
theorem d_Rd_makeStandardTable_75 : decode cd_Rd_makeStandardTable 75 = .ok (.bipush 18, 2) := by decide +kernel
theorem d_Rd_makeStandardTable_77 : decode cd_Rd_makeStandardTable 77 = .ok (.if_icmp .gt 27, 3) := by decide +kernel
theorem d_Rd_makeStandardTable_80 : decode cd_Rd_makeStandardTable 80 = .ok (.aload_n 0, 1) := by decide +kernel
theorem d_Rd_makeStandardTable_81 : decode cd_Rd_makeStandardTable 81 = .ok (.bipush 19, 2) := by decide +kernel
theorem d_Rd_makeStandardTable_83 : decode cd_Rd_makeStandardTable 83 = .ok (.bipush 16, 2) := by decide +kernel
theorem d_Rd_makeStandardTable_85 : decode cd_Rd_makeStandardTable 85 = .ok (.iload_n 1, 1) := by decide +kernel
theorem d_Rd_makeStandardTable_86 : decode cd_Rd_makeStandardTable 86 = .ok (.imul, 1) := by decide +kernel
theorem d_Rd_makeStandardTable_87 : decode cd_Rd_makeStandardTable 87 = .ok (.iadd, 1) := by decide +kernel
theorem d_Rd_makeStandardTable_88 : decode cd_Rd_makeStandardTable 88 = .ok (.iload_n 2, 1) := by decide +kernel
theorem d_Rd_makeStandardTable_89 : decode cd_Rd_makeStandardTable 89 = .ok (.iadd, 1) := by decide +kernel
theorem d_Rd_makeStandardTable_90 : decode cd_Rd_makeStandardTable 90 = .ok (.iconst 3, 1) := by decide +kernel
theorem d_Rd_makeStandardTable_91 : decode cd_Rd_makeStandardTable 91 = .ok (.isub, 1) := by decide +kernel
theorem d_Rd_makeStandardTable_92 : decode cd_Rd_makeStandardTable 92 = .ok (.iconst 3, 1) := by decide +kernel
theorem d_Rd_makeStandardTable_93 : decode cd_Rd_makeStandardTable 93 = .ok (.iload_n 2, 1) := by decide +kernel
theorem d_Rd_makeStandardTable_94 : decode cd_Rd_makeStandardTable 94 = .ok (.iload_n 1, 1) := by decide +kernel
theorem d_Rd_makeStandardTable_95 : decode cd_Rd_makeStandardTable 95 = .ok (.invokestatic 119, 3) := by decide +kernel
theorem d_Rd_makeStandardTable_98 : decode cd_Rd_makeStandardTable 98 = .ok (.iinc 2 1, 3) := by decide +kernel
theorem d_Rd_makeStandardTable_101 : decode cd_Rd_makeStandardTable 101 = .ok (.goto (-27), 3) := by decide +kernel
theorem d_Rd_makeStandardTable_104 : decode cd_Rd_makeStandardTable 104 = .ok (.aload_n 0, 1) := by decide +kernel
theorem d_Rd_makeStandardTable_105 : decode cd_Rd_makeStandardTable 105 = .ok (.iload_n 1, 1) := by decide +kernel
theorem d_Rd_makeStandardTable_106 : decode cd_Rd_makeStandardTable 106 = .ok (.invokestatic 123, 3) := by decide +kernel
theorem d_Rd_makeStandardTable_109 : decode cd_Rd_makeStandardTable 109 = .ok (.aload_n 0, 1) := by decide +kernel
theorem d_Rd_makeStandardTable_110 : decode cd_Rd_makeStandardTable 110 = .ok (.sipush 247, 3) := by decide +kernel
theorem d_Rd_makeStandardTable_113 : decode cd_Rd_makeStandardTable 113 = .ok (.iload_n 1, 1) := by decide +kernel
theorem d_Rd_makeStandardTable_114 : decode cd_Rd_makeStandardTable 114 = .ok (.iadd, 1) := by decide +kernel
theorem d_Rd_makeStandardTable_115 : decode cd_Rd_makeStandardTable 115 = .ok (.iconst 3, 1) := by decide +kernel
theorem d_Rd_makeStandardTable_116 : decode cd_Rd_makeStandardTable 116 = .ok (.iconst 4, 1) := by decide +kernel
theorem d_Rd_makeStandardTable_117 : decode cd_Rd_makeStandardTable 117 = .ok (.iload_n 1, 1) := by decide +kernel
theorem d_Rd_makeStandardTable_118 : decode cd_Rd_makeStandardTable 118 = .ok (.invokestatic 119, 3) := by decide +kernel
theorem d_Rd_makeStandardTable_121 : decode cd_Rd_makeStandardTable 121 = .ok (.aload_n 0, 1) := by decide +kernel
theorem d_Rd_makeStandardTable_122 : decode cd_Rd_makeStandardTable 122 = .ok (.sipush 503, 3) := by decide +kernel
theorem d_Rd_makeStandardTable_125 : decode cd_Rd_makeStandardTable 125 = .ok (.iload_n 1, 1) := by decide +kernel
theorem d_Rd_makeStandardTable_126 : decode cd_Rd_makeStandardTable 126 = .ok (.iadd, 1) := by decide +kernel
theorem d_Rd_makeStandardTable_127 : decode cd_Rd_makeStandardTable 127 = .ok (.iconst 1, 1) := by decide +kernel
theorem d_Rd_makeStandardTable_128 : decode cd_Rd_makeStandardTable 128 = .ok (.iconst 1, 1) := by decide +kernel
theorem d_Rd_makeStandardTable_129 : decode cd_Rd_makeStandardTable 129 = .ok (.iconst 0, 1) := by decide +kernel
theorem d_Rd_makeStandardTable_130 : decode cd_Rd_makeStandardTable 130 = .ok (.invokestatic 119, 3) := by decide +kernel
theorem d_Rd_makeStandardTable_133 : decode cd_Rd_makeStandardTable 133 = .ok (.iinc 1 1, 3) := by decide +kernel
theorem d_Rd_makeStandardTable_136 : decode cd_Rd_makeStandardTable 136 = .ok (.goto (-84), 3) := by decide +kernel
theorem d_Rd_makeStandardTable_139 : decode cd_Rd_makeStandardTable 139 = .ok (.aload_n 0, 1) := by decide +kernel
theorem d_Rd_makeStandardTable_140 : decode cd_Rd_makeStandardTable 140 = .ok (.areturn, 1) := by decide +kernel
theorem d_Rd_enterAddCopies_0 : decode cd_Rd_enterAddCopies 0 = .ok (.iload_n 1, 1) := by decide +kernel
theorem d_Rd_enterAddCopies_1 : decode cd_Rd_enterAddCopies 1 = .ok (.iconst 5, 1) := by decide +kernel
theorem d_Rd_enterAddCopies_2 : decode cd_Rd_enterAddCopies 2 = .ok (.if_icmp .gt 7, 3) := by decide +kernel
theorem d_Rd_enterAddCopies_5 : decode cd_Rd_enterAddCopies 5 = .ok (.iconst 3, 1) := by decide +kernel
theorem d_Rd_enterAddCopies_6 : decode cd_Rd_enterAddCopies 6 = .ok (.goto 4, 3) := by decide +kernel
theorem d_Rd_enterAddCopies_9 : decode cd_Rd_enterAddCopies 9 = .ok (.iconst 1, 1) := by decide +kernel
theorem d_Rd_enterAddCopies_10 : decode cd_Rd_enterAddCopies 10 = .ok (.istore_n 2, 1) := by decide +kernel
theorem d_Rd_enterAddCopies_11 : decode cd_Rd_enterAddCopies 11 = .ok (.iload_n 1, 1) := by decide +kernel
theorem d_Rd_enterAddCopies_12 : decode cd_Rd_enterAddCopies 12 = .ok (.iconst 5, 1) := by decide +kernel
theorem d_Rd_enterAddCopies_13 : decode cd_Rd_enterAddCopies 13 = .ok (.if_icmp .gt 14, 3) := by decide +kernel
theorem d_Rd_enterAddCopies_16 : decode cd_Rd_enterAddCopies 16 = .ok (.sipush 163, 3) := by decide +kernel
theorem d_Rd_enterAddCopies_19 : decode cd_Rd_enterAddCopies 19 = .ok (.bipush 12, 2) := by decide +kernel
theorem d_Rd_enterAddCopies_21 : decode cd_Rd_enterAddCopies 21 = .ok (.iload_n 1, 1) := by decide +kernel
theorem d_Rd_enterAddCopies_22 : decode cd_Rd_enterAddCopies 22 = .ok (.imul, 1) := by decide +kernel
theorem d_Rd_enterAddCopies_23 : decode cd_Rd_enterAddCopies 23 = .ok (.iadd, 1) := by decide +kernel
theorem d_Rd_enterAddCopies_24 : decode cd_Rd_enterAddCopies 24 = .ok (.goto 13, 3) := by decide +kernel
theorem d_Rd_enterAddCopies_27 : decode cd_Rd_enterAddCopies 27 = .ok (.sipush 235, 3) := by decide +kernel
theorem d_Rd_enterAddCopies_30 : decode cd_Rd_enterAddCopies 30 = .ok (.iconst 4, 1) := by decide +kernel
theorem d_Rd_enterAddCopies_31 : decode cd_Rd_enterAddCopies 31 = .ok (.iload_n 1, 1) := by decide +kernel
theorem d_Rd_enterAddCopies_32 : decode cd_Rd_enterAddCopies 32 = .ok (.bipush 6, 2) := by decide +kernel
theorem d_Rd_enterAddCopies_34 : decode cd_Rd_enterAddCopies 34 = .ok (.isub, 1) := by decide +kernel
theorem d_Rd_enterAddCopies_35 : decode cd_Rd_enterAddCopies 35 = .ok (.imul, 1) := by decide +kernel
theorem d_Rd_enterAddCopies_36 : decode cd_Rd_enterAddCopies 36 = .ok (.iadd, 1) := by decide +kernel
theorem d_Rd_enterAddCopies_37 : decode cd_Rd_enterAddCopies 37 = .ok (.istore_n 3, 1) := by decide +kernel
theorem d_Rd_enterAddCopies_38 : decode cd_Rd_enterAddCopies 38 = .ok (.iconst 0, 1) := by decide +kernel
theorem d_Rd_enterAddCopies_39 : decode cd_Rd_enterAddCopies 39 = .ok (.istore 4, 2) := by decide +kernel
theorem d_Rd_enterAddCopies_41 : decode cd_Rd_enterAddCopies 41 = .ok (.iload 4, 2) := by decide +kernel
theorem d_Rd_enterAddCopies_43 : decode cd_Rd_enterAddCopies 43 = .ok (.iconst 4, 1) := by decide +kernel
theorem d_Rd_enterAddCopies_44 : decode cd_Rd_enterAddCopies 44 = .ok (.iload_n 2, 1) := by decide +kernel
theorem d_Rd_enterAddCopies_45 : decode cd_Rd_enterAddCopies 45 = .ok (.imul, 1) := by decide +kernel
theorem d_Rd_enterAddCopies_46 : decode cd_Rd_enterAddCopies 46 = .ok (.if_icmp .ge 45, 3) := by decide +kernel
theorem d_Rd_enterAddCopies_49 : decode cd_Rd_enterAddCopies 49 = .ok (.aload_n 0, 1) := by decide +kernel
theorem d_Rd_enterAddCopies_50 : decode cd_Rd_enterAddCopies 50 = .ok (.iload_n 3, 1) := by decide +kernel
theorem d_Rd_enterAddCopies_51 : decode cd_Rd_enterAddCopies 51 = .ok (.iload 4, 2) := by decide +kernel
theorem d_Rd_enterAddCopies_53 : decode cd_Rd_enterAddCopies 53 = .ok (.iadd, 1) := by decide +kernel
theorem d_Rd_enterAddCopies_54 : decode cd_Rd_enterAddCopies 54 = .ok (.iconst 1, 1) := by decide +kernel
theorem d_Rd_enterAddCopies_55 : decode cd_Rd_enterAddCopies 55 = .ok (.iconst 1, 1) := by decide +kernel
theorem d_Rd_enterAddCopies_56 : decode cd_Rd_enterAddCopies 56 = .ok (.iload 4, 2) := by decide +kernel
theorem d_Rd_enterAddCopies_58 : decode cd_Rd_enterAddCopies 58 = .ok (.iload_n 2, 1) := by decide +kernel
theorem d_Rd_enterAddCopies_59 : decode cd_Rd_enterAddCopies 59 = .ok (.idiv, 1) := by decide +kernel
theorem d_Rd_enterAddCopies_60 : decode cd_Rd_enterAddCopies 60 = .ok (.iadd, 1) := by decide +kernel
theorem d_Rd_enterAddCopies_61 : decode cd_Rd_enterAddCopies 61 = .ok (.iconst 0, 1) := by decide +kernel
theorem d_Rd_enterAddCopies_62 : decode cd_Rd_enterAddCopies 62 = .ok (.invokestatic 119, 3) := by decide +kernel
theorem d_Rd_enterAddCopies_65 : decode cd_Rd_enterAddCopies 65 = .ok (.aload_n 0, 1) := by decide +kernel
theorem d_Rd_enterAddCopies_66 : decode cd_Rd_enterAddCopies 66 = .ok (.sipush 256, 3) := by decide +kernel
theorem d_Rd_enterAddCopies_69 : decode cd_Rd_enterAddCopies 69 = .ok (.iload_n 3, 1) := by decide +kernel
theorem d_Rd_enterAddCopies_70 : decode cd_Rd_enterAddCopies 70 = .ok (.iadd, 1) := by decide +kernel
theorem d_Rd_enterAddCopies_71 : decode cd_Rd_enterAddCopies 71 = .ok (.iload 4, 2) := by decide +kernel
theorem d_Rd_enterAddCopies_73 : decode cd_Rd_enterAddCopies 73 = .ok (.iadd, 1) := by decide +kernel
theorem d_Rd_enterAddCopies_74 : decode cd_Rd_enterAddCopies 74 = .ok (.iconst 3, 1) := by decide +kernel
theorem d_Rd_enterAddCopies_75 : decode cd_Rd_enterAddCopies 75 = .ok (.iconst 4, 1) := by decide +kernel
theorem d_Rd_enterAddCopies_76 : decode cd_Rd_enterAddCopies 76 = .ok (.iload 4, 2) := by decide +kernel
theorem d_Rd_enterAddCopies_78 : decode cd_Rd_enterAddCopies 78 = .ok (.iload_n 2, 1) := by decide +kernel
theorem d_Rd_enterAddCopies_79 : decode cd_Rd_enterAddCopies 79 = .ok (.irem, 1) := by decide +kernel
theorem d_Rd_enterAddCopies_80 : decode cd_Rd_enterAddCopies 80 = .ok (.iadd, 1) := by decide +kernel
theorem d_Rd_enterAddCopies_81 : decode cd_Rd_enterAddCopies 81 = .ok (.iload_n 1, 1) := by decide +kernel
theorem d_Rd_enterAddCopies_82 : decode cd_Rd_enterAddCopies 82 = .ok (.invokestatic 119, 3) := by decide +kernel
theorem d_Rd_enterAddCopies_85 : decode cd_Rd_enterAddCopies 85 = .ok (.iinc 4 1, 3) := by decide +kernel
theorem d_Rd_enterAddCopies_88 : decode cd_Rd_enterAddCopies 88 = .ok (.goto (-47), 3) := by decide +kernel
theorem d_Rd_enterAddCopies_91 : decode cd_Rd_enterAddCopies 91 = .ok (.return_, 1) := by decide +kernel
theorem d_Rd_enter_0 : decode cd_Rd_enter 0 = .ok (.aload_n 0, 1) := by decide +kernel
theorem d_Rd_enter_1 : decode cd_Rd_enter 1 = .ok (.getfield 62, 3) := by decide +kernel
theorem d_Rd_enter_4 : decode cd_Rd_enter 4 = .ok (.iload_n 1, 1) := by decide +kernel
theorem d_Rd_enter_5 : decode cd_Rd_enter 5 = .ok (.iload_n 2, 1) := by decide +kernel
theorem d_Rd_enter_6 : decode cd_Rd_enter 6 = .ok (.iastore, 1) := by decide +kernel
theorem d_Rd_enter_7 : decode cd_Rd_enter 7 = .ok (.aload_n 0, 1) := by decide +kernel
theorem d_Rd_enter_8 : decode cd_Rd_enter 8 = .ok (.getfield 62, 3) := by decide +kernel
theorem d_Rd_enter_11 : decode cd_Rd_enter 11 = .ok (.sipush 512, 3) := by decide +kernel
theorem d_Rd_enter_14 : decode cd_Rd_enter 14 = .ok (.iload_n 1, 1) := by decide +kernel
theorem d_Rd_enter_15 : decode cd_Rd_enter 15 = .ok (.iadd, 1) := by decide +kernel
theorem d_Rd_enter_16 : decode cd_Rd_enter 16 = .ok (.iload_n 3, 1) := by decide +kernel
theorem d_Rd_enter_17 : decode cd_Rd_enter 17 = .ok (.iastore, 1) := by decide +kernel
theorem d_Rd_enter_18 : decode cd_Rd_enter 18 = .ok (.aload_n 0, 1) := by decide +kernel
theorem d_Rd_enter_19 : decode cd_Rd_enter 19 = .ok (.getfield 62, 3) := by decide +kernel
theorem d_Rd_enter_22 : decode cd_Rd_enter 22 = .ok (.sipush 1024, 3) := by decide +kernel
theorem d_Rd_enter_25 : decode cd_Rd_enter 25 = .ok (.iload_n 1, 1) := by decide +kernel
theorem d_Rd_enter_26 : decode cd_Rd_enter 26 = .ok (.iadd, 1) := by decide +kernel
theorem d_Rd_enter_27 : decode cd_Rd_enter 27 = .ok (.iload 4, 2) := by decide +kernel
theorem d_Rd_enter_29 : decode cd_Rd_enter 29 = .ok (.iastore, 1) := by decide +kernel
theorem d_Rd_enter_30 : decode cd_Rd_enter 30 = .ok (.return_, 1) := by decide +kernel
