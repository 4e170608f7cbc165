theorem d_Mo_areBlocksRight_0 : decode b_Mo_areBlocksRight 0 = .ok (.aload_n 0, 1) := by decide +kernel
theorem d_Mo_areBlocksRight_1 : decode b_Mo_areBlocksRight 1 = .ok (.iconst 4, 1) := by decide +kernel
theorem d_Mo_areBlocksRight_2 : decode b_Mo_areBlocksRight 2 = .ok (.iconst 4, 1) := by decide +kernel
theorem d_Mo_areBlocksRight_3 : decode b_Mo_areBlocksRight 3 = .ok (.invokestatic 27, 3) := by decide +kernel
theorem d_Mo_areBlocksRight_6 : decode b_Mo_areBlocksRight 6 = .ok (.lstore_n 1, 1) := by decide +kernel
theorem d_Mo_areBlocksRight_7 : decode b_Mo_areBlocksRight 7 = .ok (.lload_n 1, 1) := by decide +kernel
theorem d_Mo_areBlocksRight_8 : decode b_Mo_areBlocksRight 8 = .ok (.aload_n 0, 1) := by decide +kernel
theorem d_Mo_areBlocksRight_9 : decode b_Mo_areBlocksRight 9 = .ok (.bipush 20, 2) := by decide +kernel
theorem d_Mo_areBlocksRight_11 : decode b_Mo_areBlocksRight 11 = .ok (.iconst 4, 1) := by decide +kernel
theorem d_Mo_areBlocksRight_12 : decode b_Mo_areBlocksRight 12 = .ok (.invokestatic 27, 3) := by decide +kernel
theorem d_Mo_areBlocksRight_15 : decode b_Mo_areBlocksRight 15 = .ok (.lcmp, 1) := by decide +kernel
theorem d_Mo_areBlocksRight_16 : decode b_Mo_areBlocksRight 16 = .ok (.ifCond .le 22, 3) := by decide +kernel
theorem d_Mo_areBlocksRight_19 : decode b_Mo_areBlocksRight 19 = .ok (.lload_n 1, 1) := by decide +kernel
theorem d_Mo_areBlocksRight_20 : decode b_Mo_areBlocksRight 20 = .ok (.ldc2_w 92, 3) := by decide +kernel
theorem d_Mo_areBlocksRight_23 : decode b_Mo_areBlocksRight 23 = .ok (.lcmp, 1) := by decide +kernel
theorem d_Mo_areBlocksRight_24 : decode b_Mo_areBlocksRight 24 = .ok (.ifCond .gt 14, 3) := by decide +kernel
theorem d_Mo_areBlocksRight_27 : decode b_Mo_areBlocksRight 27 = .ok (.aload_n 0, 1) := by decide +kernel
theorem d_Mo_areBlocksRight_28 : decode b_Mo_areBlocksRight 28 = .ok (.invokestatic 63, 3) := by decide +kernel
theorem d_Mo_areBlocksRight_31 : decode b_Mo_areBlocksRight 31 = .ok (.ldc2_w 78, 3) := by decide +kernel
theorem d_Mo_areBlocksRight_34 : decode b_Mo_areBlocksRight 34 = .ok (.lcmp, 1) := by decide +kernel
theorem d_Mo_areBlocksRight_35 : decode b_Mo_areBlocksRight 35 = .ok (.ifCond .le 5, 3) := by decide +kernel
theorem d_Mo_areBlocksRight_38 : decode b_Mo_areBlocksRight 38 = .ok (.iconst 0, 1) := by decide +kernel
theorem d_Mo_areBlocksRight_39 : decode b_Mo_areBlocksRight 39 = .ok (.ireturn, 1) := by decide +kernel
theorem d_Mo_areBlocksRight_40 : decode b_Mo_areBlocksRight 40 = .ok (.iconst 1, 1) := by decide +kernel
theorem d_Mo_areBlocksRight_41 : decode b_Mo_areBlocksRight 41 = .ok (.istore_n 3, 1) := by decide +kernel
theorem d_Mo_areBlocksRight_42 : decode b_Mo_areBlocksRight 42 = .ok (.lconst 0, 1) := by decide +kernel
theorem d_Mo_areBlocksRight_43 : decode b_Mo_areBlocksRight 43 = .ok (.lstore 4, 2) := by decide +kernel
theorem d_Mo_areBlocksRight_45 : decode b_Mo_areBlocksRight 45 = .ok (.lload 4, 2) := by decide +kernel
theorem d_Mo_areBlocksRight_47 : decode b_Mo_areBlocksRight 47 = .ok (.aload_n 0, 1) := by decide +kernel
theorem d_Mo_areBlocksRight_48 : decode b_Mo_areBlocksRight 48 = .ok (.invokestatic 63, 3) := by decide +kernel
theorem d_Mo_areBlocksRight_51 : decode b_Mo_areBlocksRight 51 = .ok (.lcmp, 1) := by decide +kernel
theorem d_Mo_areBlocksRight_52 : decode b_Mo_areBlocksRight 52 = .ok (.ifCond .ge 38, 3) := by decide +kernel
theorem d_Mo_areBlocksRight_55 : decode b_Mo_areBlocksRight 55 = .ok (.iload_n 3, 1) := by decide +kernel
theorem d_Mo_areBlocksRight_56 : decode b_Mo_areBlocksRight 56 = .ok (.ifCond .eq 23, 3) := by decide +kernel
theorem d_Mo_areBlocksRight_59 : decode b_Mo_areBlocksRight 59 = .ok (.aload_n 0, 1) := by decide +kernel
theorem d_Mo_areBlocksRight_60 : decode b_Mo_areBlocksRight 60 = .ok (.lload 4, 2) := by decide +kernel
theorem d_Mo_areBlocksRight_62 : decode b_Mo_areBlocksRight 62 = .ok (.invokestatic 94, 3) := by decide +kernel
theorem d_Mo_areBlocksRight_65 : decode b_Mo_areBlocksRight 65 = .ok (.aload_n 0, 1) := by decide +kernel
theorem d_Mo_areBlocksRight_66 : decode b_Mo_areBlocksRight 66 = .ok (.lload 4, 2) := by decide +kernel
theorem d_Mo_areBlocksRight_68 : decode b_Mo_areBlocksRight 68 = .ok (.invokestatic 97, 3) := by decide +kernel
theorem d_Mo_areBlocksRight_71 : decode b_Mo_areBlocksRight 71 = .ok (.lcmp, 1) := by decide +kernel
theorem d_Mo_areBlocksRight_72 : decode b_Mo_areBlocksRight 72 = .ok (.ifCond .le 7, 3) := by decide +kernel
theorem d_Mo_areBlocksRight_75 : decode b_Mo_areBlocksRight 75 = .ok (.iconst 1, 1) := by decide +kernel
theorem d_Mo_areBlocksRight_76 : decode b_Mo_areBlocksRight 76 = .ok (.goto 4, 3) := by decide +kernel
theorem d_Mo_areBlocksRight_79 : decode b_Mo_areBlocksRight 79 = .ok (.iconst 0, 1) := by decide +kernel
theorem d_Mo_areBlocksRight_80 : decode b_Mo_areBlocksRight 80 = .ok (.istore_n 3, 1) := by decide +kernel
theorem d_Mo_areBlocksRight_81 : decode b_Mo_areBlocksRight 81 = .ok (.lload 4, 2) := by decide +kernel
theorem d_Mo_areBlocksRight_83 : decode b_Mo_areBlocksRight 83 = .ok (.lconst 1, 1) := by decide +kernel
theorem d_Mo_areBlocksRight_84 : decode b_Mo_areBlocksRight 84 = .ok (.ladd, 1) := by decide +kernel
theorem d_Mo_areBlocksRight_85 : decode b_Mo_areBlocksRight 85 = .ok (.lstore 4, 2) := by decide +kernel
theorem d_Mo_areBlocksRight_87 : decode b_Mo_areBlocksRight 87 = .ok (.goto (-42), 3) := by decide +kernel
theorem d_Mo_areBlocksRight_90 : decode b_Mo_areBlocksRight 90 = .ok (.iload_n 3, 1) := by decide +kernel
theorem d_Mo_areBlocksRight_91 : decode b_Mo_areBlocksRight 91 = .ok (.ireturn, 1) := by decide +kernel
theorem d_Mo_faultOfCounts_0 : decode b_Mo_faultOfCounts 0 = .ok (.aload_n 0, 1) := by decide +kernel
theorem d_Mo_faultOfCounts_1 : decode b_Mo_faultOfCounts 1 = .ok (.invokestatic 100, 3) := by decide +kernel
theorem d_Mo_faultOfCounts_4 : decode b_Mo_faultOfCounts 4 = .ok (.ifCond .ne 5, 3) := by decide +kernel
theorem d_Mo_faultOfCounts_7 : decode b_Mo_faultOfCounts 7 = .ok (.iconst 4, 1) := by decide +kernel
theorem d_Mo_faultOfCounts_8 : decode b_Mo_faultOfCounts 8 = .ok (.ireturn, 1) := by decide +kernel
theorem d_Mo_faultOfCounts_9 : decode b_Mo_faultOfCounts 9 = .ok (.aload_n 0, 1) := by decide +kernel
theorem d_Mo_faultOfCounts_10 : decode b_Mo_faultOfCounts 10 = .ok (.iconst 4, 1) := by decide +kernel
theorem d_Mo_faultOfCounts_11 : decode b_Mo_faultOfCounts 11 = .ok (.iconst 4, 1) := by decide +kernel
theorem d_Mo_faultOfCounts_12 : decode b_Mo_faultOfCounts 12 = .ok (.invokestatic 27, 3) := by decide +kernel
theorem d_Mo_faultOfCounts_15 : decode b_Mo_faultOfCounts 15 = .ok (.lstore_n 1, 1) := by decide +kernel
theorem d_Mo_faultOfCounts_16 : decode b_Mo_faultOfCounts 16 = .ok (.aload_n 0, 1) := by decide +kernel
theorem d_Mo_faultOfCounts_17 : decode b_Mo_faultOfCounts 17 = .ok (.iconst 0, 1) := by decide +kernel
theorem d_Mo_faultOfCounts_18 : decode b_Mo_faultOfCounts 18 = .ok (.iconst 4, 1) := by decide +kernel
theorem d_Mo_faultOfCounts_19 : decode b_Mo_faultOfCounts 19 = .ok (.invokestatic 27, 3) := by decide +kernel
theorem d_Mo_faultOfCounts_22 : decode b_Mo_faultOfCounts 22 = .ok (.lstore_n 3, 1) := by decide +kernel
theorem d_Mo_faultOfCounts_23 : decode b_Mo_faultOfCounts 23 = .ok (.lload_n 3, 1) := by decide +kernel
theorem d_Mo_faultOfCounts_24 : decode b_Mo_faultOfCounts 24 = .ok (.aload_n 0, 1) := by decide +kernel
theorem d_Mo_faultOfCounts_25 : decode b_Mo_faultOfCounts 25 = .ok (.invokestatic 63, 3) := by decide +kernel
theorem d_Mo_faultOfCounts_28 : decode b_Mo_faultOfCounts 28 = .ok (.aload_n 0, 1) := by decide +kernel
theorem d_Mo_faultOfCounts_29 : decode b_Mo_faultOfCounts 29 = .ok (.bipush 40, 2) := by decide +kernel
theorem d_Mo_faultOfCounts_31 : decode b_Mo_faultOfCounts 31 = .ok (.iconst 4, 1) := by decide +kernel
theorem d_Mo_faultOfCounts_32 : decode b_Mo_faultOfCounts 32 = .ok (.invokestatic 27, 3) := by decide +kernel
theorem d_Mo_faultOfCounts_35 : decode b_Mo_faultOfCounts 35 = .ok (.lmul, 1) := by decide +kernel
theorem d_Mo_faultOfCounts_36 : decode b_Mo_faultOfCounts 36 = .ok (.lcmp, 1) := by decide +kernel
theorem d_Mo_faultOfCounts_37 : decode b_Mo_faultOfCounts 37 = .ok (.ifCond .eq 5, 3) := by decide +kernel
theorem d_Mo_faultOfCounts_40 : decode b_Mo_faultOfCounts 40 = .ok (.iconst 0, 1) := by decide +kernel
theorem d_Mo_faultOfCounts_41 : decode b_Mo_faultOfCounts 41 = .ok (.ireturn, 1) := by decide +kernel
theorem d_Mo_faultOfCounts_42 : decode b_Mo_faultOfCounts 42 = .ok (.aload_n 0, 1) := by decide +kernel
theorem d_Mo_faultOfCounts_43 : decode b_Mo_faultOfCounts 43 = .ok (.bipush 8, 2) := by decide +kernel
theorem d_Mo_faultOfCounts_45 : decode b_Mo_faultOfCounts 45 = .ok (.iconst 4, 1) := by decide +kernel
theorem d_Mo_faultOfCounts_46 : decode b_Mo_faultOfCounts 46 = .ok (.invokestatic 27, 3) := by decide +kernel
theorem d_Mo_faultOfCounts_49 : decode b_Mo_faultOfCounts 49 = .ok (.lload_n 1, 1) := by decide +kernel
theorem d_Mo_faultOfCounts_50 : decode b_Mo_faultOfCounts 50 = .ok (.lcmp, 1) := by decide +kernel
theorem d_Mo_faultOfCounts_51 : decode b_Mo_faultOfCounts 51 = .ok (.ifCond .le 6, 3) := by decide +kernel
theorem d_Mo_faultOfCounts_54 : decode b_Mo_faultOfCounts 54 = .ok (.bipush 8, 2) := by decide +kernel
theorem d_Mo_faultOfCounts_56 : decode b_Mo_faultOfCounts 56 = .ok (.ireturn, 1) := by decide +kernel
theorem d_Mo_faultOfCounts_57 : decode b_Mo_faultOfCounts 57 = .ok (.aload_n 0, 1) := by decide +kernel
theorem d_Mo_faultOfCounts_58 : decode b_Mo_faultOfCounts 58 = .ok (.bipush 12, 2) := by decide +kernel
theorem d_Mo_faultOfCounts_60 : decode b_Mo_faultOfCounts 60 = .ok (.iconst 4, 1) := by decide +kernel
theorem d_Mo_faultOfCounts_61 : decode b_Mo_faultOfCounts 61 = .ok (.invokestatic 27, 3) := by decide +kernel
theorem d_Mo_faultOfCounts_64 : decode b_Mo_faultOfCounts 64 = .ok (.lload_n 1, 1) := by decide +kernel
theorem d_Mo_faultOfCounts_65 : decode b_Mo_faultOfCounts 65 = .ok (.lcmp, 1) := by decide +kernel
theorem d_Mo_faultOfCounts_66 : decode b_Mo_faultOfCounts 66 = .ok (.ifCond .le 6, 3) := by decide +kernel
theorem d_Mo_faultOfCounts_69 : decode b_Mo_faultOfCounts 69 = .ok (.bipush 12, 2) := by decide +kernel
theorem d_Mo_faultOfCounts_71 : decode b_Mo_faultOfCounts 71 = .ok (.ireturn, 1) := by decide +kernel
theorem d_Mo_faultOfCounts_72 : decode b_Mo_faultOfCounts 72 = .ok (.aload_n 0, 1) := by decide +kernel
theorem d_Mo_faultOfCounts_73 : decode b_Mo_faultOfCounts 73 = .ok (.bipush 16, 2) := by decide +kernel
theorem d_Mo_faultOfCounts_75 : decode b_Mo_faultOfCounts 75 = .ok (.iconst 4, 1) := by decide +kernel
theorem d_Mo_faultOfCounts_76 : decode b_Mo_faultOfCounts 76 = .ok (.invokestatic 27, 3) := by decide +kernel
theorem d_Mo_faultOfCounts_79 : decode b_Mo_faultOfCounts 79 = .ok (.lload_n 3, 1) := by decide +kernel
theorem d_Mo_faultOfCounts_80 : decode b_Mo_faultOfCounts 80 = .ok (.lcmp, 1) := by decide +kernel
theorem d_Mo_faultOfCounts_81 : decode b_Mo_faultOfCounts 81 = .ok (.ifCond .le 6, 3) := by decide +kernel
theorem d_Mo_faultOfCounts_84 : decode b_Mo_faultOfCounts 84 = .ok (.bipush 16, 2) := by decide +kernel
theorem d_Mo_faultOfCounts_86 : decode b_Mo_faultOfCounts 86 = .ok (.ireturn, 1) := by decide +kernel
theorem d_Mo_faultOfCounts_87 : decode b_Mo_faultOfCounts 87 = .ok (.aload_n 0, 1) := by decide +kernel
theorem d_Mo_faultOfCounts_88 : decode b_Mo_faultOfCounts 88 = .ok (.bipush 58, 2) := by decide +kernel
theorem d_Mo_faultOfCounts_90 : decode b_Mo_faultOfCounts 90 = .ok (.iconst 2, 1) := by decide +kernel
theorem d_Mo_faultOfCounts_91 : decode b_Mo_faultOfCounts 91 = .ok (.invokestatic 27, 3) := by decide +kernel
theorem d_Mo_faultOfCounts_94 : decode b_Mo_faultOfCounts 94 = .ok (.lconst 1, 1) := by decide +kernel
theorem d_Mo_faultOfCounts_95 : decode b_Mo_faultOfCounts 95 = .ok (.lcmp, 1) := by decide +kernel
theorem d_Mo_faultOfCounts_96 : decode b_Mo_faultOfCounts 96 = .ok (.ifCond .eq 20, 3) := by decide +kernel
theorem d_Mo_faultOfCounts_99 : decode b_Mo_faultOfCounts 99 = .ok (.aload_n 0, 1) := by decide +kernel
theorem d_Mo_faultOfCounts_100 : decode b_Mo_faultOfCounts 100 = .ok (.bipush 58, 2) := by decide +kernel
theorem d_Mo_faultOfCounts_102 : decode b_Mo_faultOfCounts 102 = .ok (.iconst 2, 1) := by decide +kernel
theorem d_Mo_faultOfCounts_103 : decode b_Mo_faultOfCounts 103 = .ok (.invokestatic 27, 3) := by decide +kernel
theorem d_Mo_faultOfCounts_106 : decode b_Mo_faultOfCounts 106 = .ok (.ldc2_w 43, 3) := by decide +kernel
theorem d_Mo_faultOfCounts_109 : decode b_Mo_faultOfCounts 109 = .ok (.lcmp, 1) := by decide +kernel
theorem d_Mo_faultOfCounts_110 : decode b_Mo_faultOfCounts 110 = .ok (.ifCond .eq 6, 3) := by decide +kernel
theorem d_Mo_faultOfCounts_113 : decode b_Mo_faultOfCounts 113 = .ok (.bipush 58, 2) := by decide +kernel
theorem d_Mo_faultOfCounts_115 : decode b_Mo_faultOfCounts 115 = .ok (.ireturn, 1) := by decide +kernel
theorem d_Mo_faultOfCounts_116 : decode b_Mo_faultOfCounts 116 = .ok (.aload_n 0, 1) := by decide +kernel
theorem d_Mo_faultOfCounts_117 : decode b_Mo_faultOfCounts 117 = .ok (.bipush 84, 2) := by decide +kernel
theorem d_Mo_faultOfCounts_119 : decode b_Mo_faultOfCounts 119 = .ok (.iconst 4, 1) := by decide +kernel
theorem d_Mo_faultOfCounts_120 : decode b_Mo_faultOfCounts 120 = .ok (.invokestatic 27, 3) := by decide +kernel
theorem d_Mo_faultOfCounts_123 : decode b_Mo_faultOfCounts 123 = .ok (.ldc2_w 104, 3) := by decide +kernel
theorem d_Mo_faultOfCounts_126 : decode b_Mo_faultOfCounts 126 = .ok (.lload_n 3, 1) := by decide +kernel
theorem d_Mo_faultOfCounts_127 : decode b_Mo_faultOfCounts 127 = .ok (.invokestatic 82, 3) := by decide +kernel
theorem d_Mo_faultOfCounts_130 : decode b_Mo_faultOfCounts 130 = .ok (.ifCond .ne 6, 3) := by decide +kernel
theorem d_Mo_faultOfCounts_133 : decode b_Mo_faultOfCounts 133 = .ok (.bipush 84, 2) := by decide +kernel
theorem d_Mo_faultOfCounts_135 : decode b_Mo_faultOfCounts 135 = .ok (.ireturn, 1) := by decide +kernel
theorem d_Mo_faultOfCounts_136 : decode b_Mo_faultOfCounts 136 = .ok (.aload_n 0, 1) := by decide +kernel
theorem d_Mo_faultOfCounts_137 : decode b_Mo_faultOfCounts 137 = .ok (.bipush 90, 2) := by decide +kernel
theorem d_Mo_faultOfCounts_139 : decode b_Mo_faultOfCounts 139 = .ok (.iconst 2, 1) := by decide +kernel
theorem d_Mo_faultOfCounts_140 : decode b_Mo_faultOfCounts 140 = .ok (.invokestatic 27, 3) := by decide +kernel
theorem d_Mo_faultOfCounts_143 : decode b_Mo_faultOfCounts 143 = .ok (.lstore 5, 2) := by decide +kernel
theorem d_Mo_faultOfCounts_145 : decode b_Mo_faultOfCounts 145 = .ok (.lload 5, 2) := by decide +kernel
theorem d_Mo_faultOfCounts_147 : decode b_Mo_faultOfCounts 147 = .ok (.aload_n 0, 1) := by decide +kernel
theorem d_Mo_faultOfCounts_148 : decode b_Mo_faultOfCounts 148 = .ok (.invokestatic 63, 3) := by decide +kernel
theorem d_Mo_faultOfCounts_151 : decode b_Mo_faultOfCounts 151 = .ok (.lcmp, 1) := by decide +kernel
theorem d_Mo_faultOfCounts_152 : decode b_Mo_faultOfCounts 152 = .ok (.ifCond .ge 17, 3) := by decide +kernel
theorem d_Mo_faultOfCounts_155 : decode b_Mo_faultOfCounts 155 = .ok (.aload_n 0, 1) := by decide +kernel
theorem d_Mo_faultOfCounts_156 : decode b_Mo_faultOfCounts 156 = .ok (.lload 5, 2) := by decide +kernel
theorem d_Mo_faultOfCounts_158 : decode b_Mo_faultOfCounts 158 = .ok (.invokestatic 57, 3) := by decide +kernel
theorem d_Mo_faultOfCounts_161 : decode b_Mo_faultOfCounts 161 = .ok (.ifCond .eq 8, 3) := by decide +kernel
theorem d_Mo_faultOfCounts_164 : decode b_Mo_faultOfCounts 164 = .ok (.bipush (-2), 2) := by decide +kernel
theorem d_Mo_faultOfCounts_166 : decode b_Mo_faultOfCounts 166 = .ok (.goto 5, 3) := by decide +kernel
theorem d_Mo_faultOfCounts_169 : decode b_Mo_faultOfCounts 169 = .ok (.bipush 90, 2) := by decide +kernel
theorem d_Mo_faultOfCounts_171 : decode b_Mo_faultOfCounts 171 = .ok (.ireturn, 1) := by decide +kernel
theorem d_Mo_isListed_0 : decode b_Mo_isListed 0 = .ok (.iload_n 0, 1) := by decide +kernel
theorem d_Mo_isListed_1 : decode b_Mo_isListed 1 = .ok (.ifCond .ne 21, 3) := by decide +kernel
theorem d_Mo_isListed_4 : decode b_Mo_isListed 4 = .ok (.iload_n 1, 1) := by decide +kernel
theorem d_Mo_isListed_5 : decode b_Mo_isListed 5 = .ok (.iconst 2, 1) := by decide +kernel
theorem d_Mo_isListed_6 : decode b_Mo_isListed 6 = .ok (.if_icmp .eq 8, 3) := by decide +kernel
theorem d_Mo_isListed_9 : decode b_Mo_isListed 9 = .ok (.iload_n 1, 1) := by decide +kernel
theorem d_Mo_isListed_10 : decode b_Mo_isListed 10 = .ok (.iconst 5, 1) := by decide +kernel
theorem d_Mo_isListed_11 : decode b_Mo_isListed 11 = .ok (.if_icmp .ne 7, 3) := by decide +kernel
theorem d_Mo_isListed_14 : decode b_Mo_isListed 14 = .ok (.iconst 1, 1) := by decide +kernel
theorem d_Mo_isListed_15 : decode b_Mo_isListed 15 = .ok (.goto 46, 3) := by decide +kernel
theorem d_Mo_isListed_18 : decode b_Mo_isListed 18 = .ok (.iconst 0, 1) := by decide +kernel
theorem d_Mo_isListed_19 : decode b_Mo_isListed 19 = .ok (.goto 42, 3) := by decide +kernel
theorem d_Mo_isListed_22 : decode b_Mo_isListed 22 = .ok (.iload_n 0, 1) := by decide +kernel
theorem d_Mo_isListed_23 : decode b_Mo_isListed 23 = .ok (.iconst 1, 1) := by decide +kernel
theorem d_Mo_isListed_24 : decode b_Mo_isListed 24 = .ok (.if_icmp .ne 27, 3) := by decide +kernel
theorem d_Mo_isListed_27 : decode b_Mo_isListed 27 = .ok (.iload_n 1, 1) := by decide +kernel
theorem d_Mo_isListed_28 : decode b_Mo_isListed 28 = .ok (.iconst 1, 1) := by decide +kernel
theorem d_Mo_isListed_29 : decode b_Mo_isListed 29 = .ok (.if_icmp .eq 14, 3) := by decide +kernel
theorem d_Mo_isListed_32 : decode b_Mo_isListed 32 = .ok (.iload_n 1, 1) := by decide +kernel
theorem d_Mo_isListed_33 : decode b_Mo_isListed 33 = .ok (.iconst 2, 1) := by decide +kernel
theorem d_Mo_isListed_34 : decode b_Mo_isListed 34 = .ok (.if_icmp .eq 9, 3) := by decide +kernel
theorem d_Mo_isListed_37 : decode b_Mo_isListed 37 = .ok (.iload_n 1, 1) := by decide +kernel
theorem d_Mo_isListed_38 : decode b_Mo_isListed 38 = .ok (.bipush 6, 2) := by decide +kernel
theorem d_Mo_isListed_40 : decode b_Mo_isListed 40 = .ok (.if_icmp .ne 7, 3) := by decide +kernel
theorem d_Mo_isListed_43 : decode b_Mo_isListed 43 = .ok (.iconst 1, 1) := by decide +kernel
theorem d_Mo_isListed_44 : decode b_Mo_isListed 44 = .ok (.goto 17, 3) := by decide +kernel
theorem d_Mo_isListed_47 : decode b_Mo_isListed 47 = .ok (.iconst 0, 1) := by decide +kernel
theorem d_Mo_isListed_48 : decode b_Mo_isListed 48 = .ok (.goto 13, 3) := by decide +kernel
theorem d_Mo_isListed_51 : decode b_Mo_isListed 51 = .ok (.iload_n 1, 1) := by decide +kernel
theorem d_Mo_isListed_52 : decode b_Mo_isListed 52 = .ok (.iconst 2, 1) := by decide +kernel
theorem d_Mo_isListed_53 : decode b_Mo_isListed 53 = .ok (.if_icmp .ge 7, 3) := by decide +kernel
theorem d_Mo_isListed_56 : decode b_Mo_isListed 56 = .ok (.iconst 1, 1) := by decide +kernel
theorem d_Mo_isListed_57 : decode b_Mo_isListed 57 = .ok (.goto 4, 3) := by decide +kernel
theorem d_Mo_isListed_60 : decode b_Mo_isListed 60 = .ok (.iconst 0, 1) := by decide +kernel
theorem d_Mo_isListed_61 : decode b_Mo_isListed 61 = .ok (.ireturn, 1) := by decide +kernel
theorem d_Mo_faultOfFeatures_0 : decode b_Mo_faultOfFeatures 0 = .ok (.iconst 0, 1) := by decide +kernel
theorem d_Mo_faultOfFeatures_1 : decode b_Mo_faultOfFeatures 1 = .ok (.istore_n 1, 1) := by decide +kernel
theorem d_Mo_faultOfFeatures_2 : decode b_Mo_faultOfFeatures 2 = .ok (.iload_n 1, 1) := by decide +kernel
theorem d_Mo_faultOfFeatures_3 : decode b_Mo_faultOfFeatures 3 = .ok (.iconst 3, 1) := by decide +kernel
theorem d_Mo_faultOfFeatures_4 : decode b_Mo_faultOfFeatures 4 = .ok (.if_icmp .ge 85, 3) := by decide +kernel
theorem d_Mo_faultOfFeatures_7 : decode b_Mo_faultOfFeatures 7 = .ok (.iconst 0, 1) := by decide +kernel
theorem d_Mo_faultOfFeatures_8 : decode b_Mo_faultOfFeatures 8 = .ok (.istore_n 2, 1) := by decide +kernel
theorem d_Mo_faultOfFeatures_9 : decode b_Mo_faultOfFeatures 9 = .ok (.iload_n 2, 1) := by decide +kernel
theorem d_Mo_faultOfFeatures_10 : decode b_Mo_faultOfFeatures 10 = .ok (.bipush 32, 2) := by decide +kernel
theorem d_Mo_faultOfFeatures_12 : decode b_Mo_faultOfFeatures 12 = .ok (.if_icmp .ge 42, 3) := by decide +kernel
theorem d_Mo_faultOfFeatures_15 : decode b_Mo_faultOfFeatures 15 = .ok (.aload_n 0, 1) := by decide +kernel
theorem d_Mo_faultOfFeatures_16 : decode b_Mo_faultOfFeatures 16 = .ok (.bipush 92, 2) := by decide +kernel
theorem d_Mo_faultOfFeatures_18 : decode b_Mo_faultOfFeatures 18 = .ok (.iconst 4, 1) := by decide +kernel
theorem d_Mo_faultOfFeatures_19 : decode b_Mo_faultOfFeatures 19 = .ok (.iload_n 1, 1) := by decide +kernel
theorem d_Mo_faultOfFeatures_20 : decode b_Mo_faultOfFeatures 20 = .ok (.imul, 1) := by decide +kernel
theorem d_Mo_faultOfFeatures_21 : decode b_Mo_faultOfFeatures 21 = .ok (.iadd, 1) := by decide +kernel
theorem d_Mo_faultOfFeatures_22 : decode b_Mo_faultOfFeatures 22 = .ok (.iload_n 2, 1) := by decide +kernel
theorem d_Mo_faultOfFeatures_23 : decode b_Mo_faultOfFeatures 23 = .ok (.invokestatic 37, 3) := by decide +kernel
theorem d_Mo_faultOfFeatures_26 : decode b_Mo_faultOfFeatures 26 = .ok (.ifCond .eq 22, 3) := by decide +kernel
theorem d_Mo_faultOfFeatures_29 : decode b_Mo_faultOfFeatures 29 = .ok (.iload_n 1, 1) := by decide +kernel
theorem d_Mo_faultOfFeatures_30 : decode b_Mo_faultOfFeatures 30 = .ok (.iload_n 2, 1) := by decide +kernel
theorem d_Mo_faultOfFeatures_31 : decode b_Mo_faultOfFeatures 31 = .ok (.invokestatic 106, 3) := by decide +kernel
theorem d_Mo_faultOfFeatures_34 : decode b_Mo_faultOfFeatures 34 = .ok (.ifCond .ne 14, 3) := by decide +kernel
theorem d_Mo_faultOfFeatures_37 : decode b_Mo_faultOfFeatures 37 = .ok (.sipush 2000, 3) := by decide +kernel
theorem d_Mo_faultOfFeatures_40 : decode b_Mo_faultOfFeatures 40 = .ok (.bipush 32, 2) := by decide +kernel
theorem d_Mo_faultOfFeatures_42 : decode b_Mo_faultOfFeatures 42 = .ok (.iload_n 1, 1) := by decide +kernel
theorem d_Mo_faultOfFeatures_43 : decode b_Mo_faultOfFeatures 43 = .ok (.imul, 1) := by decide +kernel
theorem d_Mo_faultOfFeatures_44 : decode b_Mo_faultOfFeatures 44 = .ok (.iadd, 1) := by decide +kernel
theorem d_Mo_faultOfFeatures_45 : decode b_Mo_faultOfFeatures 45 = .ok (.iload_n 2, 1) := by decide +kernel
theorem d_Mo_faultOfFeatures_46 : decode b_Mo_faultOfFeatures 46 = .ok (.iadd, 1) := by decide +kernel
theorem d_Mo_faultOfFeatures_47 : decode b_Mo_faultOfFeatures 47 = .ok (.ireturn, 1) := by decide +kernel
theorem d_Mo_faultOfFeatures_48 : decode b_Mo_faultOfFeatures 48 = .ok (.iinc 2 1, 3) := by decide +kernel
theorem d_Mo_faultOfFeatures_51 : decode b_Mo_faultOfFeatures 51 = .ok (.goto (-42), 3) := by decide +kernel
theorem d_Mo_faultOfFeatures_54 : decode b_Mo_faultOfFeatures 54 = .ok (.iload_n 1, 1) := by decide +kernel
theorem d_Mo_faultOfFeatures_55 : decode b_Mo_faultOfFeatures 55 = .ok (.iconst 1, 1) := by decide +kernel
theorem d_Mo_faultOfFeatures_56 : decode b_Mo_faultOfFeatures 56 = .ok (.if_icmp .ne 27, 3) := by decide +kernel
theorem d_Mo_faultOfFeatures_59 : decode b_Mo_faultOfFeatures 59 = .ok (.aload_n 0, 1) := by decide +kernel
theorem d_Mo_faultOfFeatures_60 : decode b_Mo_faultOfFeatures 60 = .ok (.bipush 96, 2) := by decide +kernel
theorem d_Mo_faultOfFeatures_62 : decode b_Mo_faultOfFeatures 62 = .ok (.iconst 1, 1) := by decide +kernel
theorem d_Mo_faultOfFeatures_63 : decode b_Mo_faultOfFeatures 63 = .ok (.invokestatic 37, 3) := by decide +kernel
theorem d_Mo_faultOfFeatures_66 : decode b_Mo_faultOfFeatures 66 = .ok (.ifCond .eq 14, 3) := by decide +kernel
theorem d_Mo_faultOfFeatures_69 : decode b_Mo_faultOfFeatures 69 = .ok (.aload_n 0, 1) := by decide +kernel
theorem d_Mo_faultOfFeatures_70 : decode b_Mo_faultOfFeatures 70 = .ok (.bipush 96, 2) := by decide +kernel
theorem d_Mo_faultOfFeatures_72 : decode b_Mo_faultOfFeatures 72 = .ok (.bipush 6, 2) := by decide +kernel
theorem d_Mo_faultOfFeatures_74 : decode b_Mo_faultOfFeatures 74 = .ok (.invokestatic 37, 3) := by decide +kernel
theorem d_Mo_faultOfFeatures_77 : decode b_Mo_faultOfFeatures 77 = .ok (.ifCond .ne 6, 3) := by decide +kernel
theorem d_Mo_faultOfFeatures_80 : decode b_Mo_faultOfFeatures 80 = .ok (.bipush 96, 2) := by decide +kernel
theorem d_Mo_faultOfFeatures_82 : decode b_Mo_faultOfFeatures 82 = .ok (.ireturn, 1) := by decide +kernel
theorem d_Mo_faultOfFeatures_83 : decode b_Mo_faultOfFeatures 83 = .ok (.iinc 1 1, 3) := by decide +kernel
theorem d_Mo_faultOfFeatures_86 : decode b_Mo_faultOfFeatures 86 = .ok (.goto (-84), 3) := by decide +kernel
theorem d_Mo_faultOfFeatures_89 : decode b_Mo_faultOfFeatures 89 = .ok (.bipush (-2), 2) := by decide +kernel
theorem d_Mo_faultOfFeatures_91 : decode b_Mo_faultOfFeatures 91 = .ok (.ireturn, 1) := by decide +kernel
theorem d_Mo_faultOfRest_0 : decode b_Mo_faultOfRest 0 = .ok (.aload_n 0, 1) := by decide +kernel
theorem d_Mo_faultOfRest_1 : decode b_Mo_faultOfRest 1 = .ok (.sipush 224, 3) := by decide +kernel
theorem d_Mo_faultOfRest_4 : decode b_Mo_faultOfRest 4 = .ok (.iconst 4, 1) := by decide +kernel
theorem d_Mo_faultOfRest_5 : decode b_Mo_faultOfRest 5 = .ok (.invokestatic 27, 3) := by decide +kernel
theorem d_Mo_faultOfRest_8 : decode b_Mo_faultOfRest 8 = .ok (.aload_n 0, 1) := by decide +kernel
theorem d_Mo_faultOfRest_9 : decode b_Mo_faultOfRest 9 = .ok (.bipush 92, 2) := by decide +kernel
theorem d_Mo_faultOfRest_11 : decode b_Mo_faultOfRest 11 = .ok (.iconst 2, 1) := by decide +kernel
theorem d_Mo_faultOfRest_12 : decode b_Mo_faultOfRest 12 = .ok (.invokestatic 37, 3) := by decide +kernel
theorem d_Mo_faultOfRest_15 : decode b_Mo_faultOfRest 15 = .ok (.ifCond .eq 9, 3) := by decide +kernel
theorem d_Mo_faultOfRest_18 : decode b_Mo_faultOfRest 18 = .ok (.ldc2_w 80, 3) := by decide +kernel
theorem d_Mo_faultOfRest_21 : decode b_Mo_faultOfRest 21 = .ok (.goto 4, 3) := by decide +kernel
theorem d_Mo_faultOfRest_24 : decode b_Mo_faultOfRest 24 = .ok (.lconst 0, 1) := by decide +kernel
theorem d_Mo_faultOfRest_25 : decode b_Mo_faultOfRest 25 = .ok (.lcmp, 1) := by decide +kernel
theorem d_Mo_faultOfRest_26 : decode b_Mo_faultOfRest 26 = .ok (.ifCond .eq 7, 3) := by decide +kernel
theorem d_Mo_faultOfRest_29 : decode b_Mo_faultOfRest 29 = .ok (.sipush 224, 3) := by decide +kernel
theorem d_Mo_faultOfRest_32 : decode b_Mo_faultOfRest 32 = .ok (.ireturn, 1) := by decide +kernel
theorem d_Mo_faultOfRest_33 : decode b_Mo_faultOfRest 33 = .ok (.aload_n 0, 1) := by decide +kernel
theorem d_Mo_faultOfRest_34 : decode b_Mo_faultOfRest 34 = .ok (.sipush 232, 3) := by decide +kernel
theorem d_Mo_faultOfRest_37 : decode b_Mo_faultOfRest 37 = .ok (.iconst 4, 1) := by decide +kernel
theorem d_Mo_faultOfRest_38 : decode b_Mo_faultOfRest 38 = .ok (.invokestatic 27, 3) := by decide +kernel
theorem d_Mo_faultOfRest_41 : decode b_Mo_faultOfRest 41 = .ok (.aload_n 0, 1) := by decide +kernel
theorem d_Mo_faultOfRest_42 : decode b_Mo_faultOfRest 42 = .ok (.iconst 0, 1) := by decide +kernel
theorem d_Mo_faultOfRest_43 : decode b_Mo_faultOfRest 43 = .ok (.iconst 4, 1) := by decide +kernel
theorem d_Mo_faultOfRest_44 : decode b_Mo_faultOfRest 44 = .ok (.invokestatic 27, 3) := by decide +kernel
theorem d_Mo_faultOfRest_47 : decode b_Mo_faultOfRest 47 = .ok (.lcmp, 1) := by decide +kernel
theorem d_Mo_faultOfRest_48 : decode b_Mo_faultOfRest 48 = .ok (.ifCond .le 7, 3) := by decide +kernel
theorem d_Mo_faultOfRest_51 : decode b_Mo_faultOfRest 51 = .ok (.sipush 232, 3) := by decide +kernel
theorem d_Mo_faultOfRest_54 : decode b_Mo_faultOfRest 54 = .ok (.ireturn, 1) := by decide +kernel
theorem d_Mo_faultOfRest_55 : decode b_Mo_faultOfRest 55 = .ok (.aload_n 0, 1) := by decide +kernel
theorem d_Mo_faultOfRest_56 : decode b_Mo_faultOfRest 56 = .ok (.sipush 252, 3) := by decide +kernel
theorem d_Mo_faultOfRest_59 : decode b_Mo_faultOfRest 59 = .ok (.iconst 1, 1) := by decide +kernel
theorem d_Mo_faultOfRest_60 : decode b_Mo_faultOfRest 60 = .ok (.invokestatic 27, 3) := by decide +kernel
theorem d_Mo_faultOfRest_63 : decode b_Mo_faultOfRest 63 = .ok (.aload_n 0, 1) := by decide +kernel
theorem d_Mo_faultOfRest_64 : decode b_Mo_faultOfRest 64 = .ok (.bipush 92, 2) := by decide +kernel
theorem d_Mo_faultOfRest_66 : decode b_Mo_faultOfRest 66 = .ok (.iconst 5, 1) := by decide +kernel
theorem d_Mo_faultOfRest_67 : decode b_Mo_faultOfRest 67 = .ok (.invokestatic 37, 3) := by decide +kernel
theorem d_Mo_faultOfRest_70 : decode b_Mo_faultOfRest 70 = .ok (.ifCond .eq 7, 3) := by decide +kernel
theorem d_Mo_faultOfRest_73 : decode b_Mo_faultOfRest 73 = .ok (.lconst 1, 1) := by decide +kernel
theorem d_Mo_faultOfRest_74 : decode b_Mo_faultOfRest 74 = .ok (.goto 4, 3) := by decide +kernel
theorem d_Mo_faultOfRest_77 : decode b_Mo_faultOfRest 77 = .ok (.lconst 0, 1) := by decide +kernel
theorem d_Mo_faultOfRest_78 : decode b_Mo_faultOfRest 78 = .ok (.lcmp, 1) := by decide +kernel
theorem d_Mo_faultOfRest_79 : decode b_Mo_faultOfRest 79 = .ok (.ifCond .eq 7, 3) := by decide +kernel
theorem d_Mo_faultOfRest_82 : decode b_Mo_faultOfRest 82 = .ok (.sipush 252, 3) := by decide +kernel
theorem d_Mo_faultOfRest_85 : decode b_Mo_faultOfRest 85 = .ok (.ireturn, 1) := by decide +kernel
theorem d_Mo_faultOfRest_86 : decode b_Mo_faultOfRest 86 = .ok (.aload_n 0, 1) := by decide +kernel
theorem d_Mo_faultOfRest_87 : decode b_Mo_faultOfRest 87 = .ok (.sipush 254, 3) := by decide +kernel
theorem d_Mo_faultOfRest_90 : decode b_Mo_faultOfRest 90 = .ok (.iconst 2, 1) := by decide +kernel
theorem d_Mo_faultOfRest_91 : decode b_Mo_faultOfRest 91 = .ok (.invokestatic 27, 3) := by decide +kernel
theorem d_Mo_faultOfRest_94 : decode b_Mo_faultOfRest 94 = .ok (.lconst 0, 1) := by decide +kernel
theorem d_Mo_faultOfRest_95 : decode b_Mo_faultOfRest 95 = .ok (.lcmp, 1) := by decide +kernel
theorem d_Mo_faultOfRest_96 : decode b_Mo_faultOfRest 96 = .ok (.ifCond .ne 8, 3) := by decide +kernel
theorem d_Mo_faultOfRest_99 : decode b_Mo_faultOfRest 99 = .ok (.bipush (-2), 2) := by decide +kernel
theorem d_Mo_faultOfRest_101 : decode b_Mo_faultOfRest 101 = .ok (.goto 6, 3) := by decide +kernel
theorem d_Mo_faultOfRest_104 : decode b_Mo_faultOfRest 104 = .ok (.sipush 254, 3) := by decide +kernel
theorem d_Mo_faultOfRest_107 : decode b_Mo_faultOfRest 107 = .ok (.ireturn, 1) := by decide +kernel
theorem d_Mo_faultOf_0 : decode b_Mo_faultOf 0 = .ok (.aload_n 0, 1) := by decide +kernel
theorem d_Mo_faultOf_1 : decode b_Mo_faultOf 1 = .ok (.invokestatic 110, 3) := by decide +kernel
theorem d_Mo_faultOf_4 : decode b_Mo_faultOf 4 = .ok (.istore_n 1, 1) := by decide +kernel
theorem d_Mo_faultOf_5 : decode b_Mo_faultOf 5 = .ok (.iload_n 1, 1) := by decide +kernel
theorem d_Mo_faultOf_6 : decode b_Mo_faultOf 6 = .ok (.bipush (-2), 2) := by decide +kernel
theorem d_Mo_faultOf_8 : decode b_Mo_faultOf 8 = .ok (.if_icmp .ne 10, 3) := by decide +kernel
theorem d_Mo_faultOf_11 : decode b_Mo_faultOf 11 = .ok (.aload_n 0, 1) := by decide +kernel
theorem d_Mo_faultOf_12 : decode b_Mo_faultOf 12 = .ok (.invokestatic 114, 3) := by decide +kernel
theorem d_Mo_faultOf_15 : decode b_Mo_faultOf 15 = .ok (.goto 4, 3) := by decide +kernel
theorem d_Mo_faultOf_18 : decode b_Mo_faultOf 18 = .ok (.iload_n 1, 1) := by decide +kernel
theorem d_Mo_faultOf_19 : decode b_Mo_faultOf 19 = .ok (.istore_n 1, 1) := by decide +kernel
theorem d_Mo_faultOf_20 : decode b_Mo_faultOf 20 = .ok (.iload_n 1, 1) := by decide +kernel
theorem d_Mo_faultOf_21 : decode b_Mo_faultOf 21 = .ok (.bipush (-2), 2) := by decide +kernel
theorem d_Mo_faultOf_23 : decode b_Mo_faultOf 23 = .ok (.if_icmp .ne 10, 3) := by decide +kernel
theorem d_Mo_faultOf_26 : decode b_Mo_faultOf 26 = .ok (.aload_n 0, 1) := by decide +kernel
theorem d_Mo_faultOf_27 : decode b_Mo_faultOf 27 = .ok (.invokestatic 117, 3) := by decide +kernel
theorem d_Mo_faultOf_30 : decode b_Mo_faultOf 30 = .ok (.goto 4, 3) := by decide +kernel
theorem d_Mo_faultOf_33 : decode b_Mo_faultOf 33 = .ok (.iload_n 1, 1) := by decide +kernel
theorem d_Mo_faultOf_34 : decode b_Mo_faultOf 34 = .ok (.istore_n 1, 1) := by decide +kernel
theorem d_Mo_faultOf_35 : decode b_Mo_faultOf 35 = .ok (.iload_n 1, 1) := by decide +kernel
theorem d_Mo_faultOf_36 : decode b_Mo_faultOf 36 = .ok (.bipush (-2), 2) := by decide +kernel
theorem d_Mo_faultOf_38 : decode b_Mo_faultOf 38 = .ok (.if_icmp .ne 10, 3) := by decide +kernel
theorem d_Mo_faultOf_41 : decode b_Mo_faultOf 41 = .ok (.aload_n 0, 1) := by decide +kernel
theorem d_Mo_faultOf_42 : decode b_Mo_faultOf 42 = .ok (.invokestatic 120, 3) := by decide +kernel
theorem d_Mo_faultOf_45 : decode b_Mo_faultOf 45 = .ok (.goto 4, 3) := by decide +kernel
theorem d_Mo_faultOf_48 : decode b_Mo_faultOf 48 = .ok (.iload_n 1, 1) := by decide +kernel
theorem d_Mo_faultOf_49 : decode b_Mo_faultOf 49 = .ok (.ireturn, 1) := by decide +kernel
theorem d_Mo_isRight_0 : decode b_Mo_isRight 0 = .ok (.aload_n 0, 1) := by decide +kernel
theorem d_Mo_isRight_1 : decode b_Mo_isRight 1 = .ok (.getfield 7, 3) := by decide +kernel
theorem d_Mo_isRight_4 : decode b_Mo_isRight 4 = .ok (.invokestatic 123, 3) := by decide +kernel
theorem d_Mo_isRight_7 : decode b_Mo_isRight 7 = .ok (.bipush (-2), 2) := by decide +kernel
theorem d_Mo_isRight_9 : decode b_Mo_isRight 9 = .ok (.if_icmp .ne 7, 3) := by decide +kernel
theorem d_Mo_isRight_12 : decode b_Mo_isRight 12 = .ok (.iconst 1, 1) := by decide +kernel
theorem d_Mo_isRight_13 : decode b_Mo_isRight 13 = .ok (.goto 4, 3) := by decide +kernel
theorem d_Mo_isRight_16 : decode b_Mo_isRight 16 = .ok (.iconst 0, 1) := by decide +kernel
theorem d_Mo_isRight_17 : decode b_Mo_isRight 17 = .ok (.ireturn, 1) := by decide +kernel
