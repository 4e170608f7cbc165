theorem d_Mo_where_0 : decode b_Mo_where 0 = .ok (.aload_n 0, 1) := by decide +kernel
theorem d_Mo_where_1 : decode b_Mo_where 1 = .ok (.invokevirtual 150, 3) := by decide +kernel
theorem d_Mo_where_4 : decode b_Mo_where 4 = .ok (.ifCond .eq 30, 3) := by decide +kernel
theorem d_Mo_where_7 : decode b_Mo_where 7 = .ok (.iload_n 1, 1) := by decide +kernel
theorem d_Mo_where_8 : decode b_Mo_where 8 = .ok (.ifCond .lt 26, 3) := by decide +kernel
theorem d_Mo_where_11 : decode b_Mo_where 11 = .ok (.iload_n 1, 1) := by decide +kernel
theorem d_Mo_where_12 : decode b_Mo_where 12 = .ok (.i2l, 1) := by decide +kernel
theorem d_Mo_where_13 : decode b_Mo_where 13 = .ok (.aload_n 0, 1) := by decide +kernel
theorem d_Mo_where_14 : decode b_Mo_where 14 = .ok (.getfield 7, 3) := by decide +kernel
theorem d_Mo_where_17 : decode b_Mo_where 17 = .ok (.invokestatic 63, 3) := by decide +kernel
theorem d_Mo_where_20 : decode b_Mo_where 20 = .ok (.lcmp, 1) := by decide +kernel
theorem d_Mo_where_21 : decode b_Mo_where 21 = .ok (.ifCond .ge 13, 3) := by decide +kernel
theorem d_Mo_where_24 : decode b_Mo_where 24 = .ok (.iload_n 2, 1) := by decide +kernel
theorem d_Mo_where_25 : decode b_Mo_where 25 = .ok (.ifCond .lt 9, 3) := by decide +kernel
theorem d_Mo_where_28 : decode b_Mo_where 28 = .ok (.iload_n 2, 1) := by decide +kernel
theorem d_Mo_where_29 : decode b_Mo_where 29 = .ok (.bipush 7, 2) := by decide +kernel
theorem d_Mo_where_31 : decode b_Mo_where 31 = .ok (.if_icmp .le 5, 3) := by decide +kernel
theorem d_Mo_where_34 : decode b_Mo_where 34 = .ok (.iconst (-1), 1) := by decide +kernel
theorem d_Mo_where_35 : decode b_Mo_where 35 = .ok (.ireturn, 1) := by decide +kernel
theorem d_Mo_where_36 : decode b_Mo_where 36 = .ok (.aload_n 0, 1) := by decide +kernel
theorem d_Mo_where_37 : decode b_Mo_where 37 = .ok (.getfield 7, 3) := by decide +kernel
theorem d_Mo_where_40 : decode b_Mo_where 40 = .ok (.iload_n 1, 1) := by decide +kernel
theorem d_Mo_where_41 : decode b_Mo_where 41 = .ok (.i2l, 1) := by decide +kernel
theorem d_Mo_where_42 : decode b_Mo_where 42 = .ok (.invokestatic 53, 3) := by decide +kernel
theorem d_Mo_where_45 : decode b_Mo_where 45 = .ok (.lstore_n 3, 1) := by decide +kernel
theorem d_Mo_where_46 : decode b_Mo_where 46 = .ok (.aload_n 0, 1) := by decide +kernel
theorem d_Mo_where_47 : decode b_Mo_where 47 = .ok (.getfield 7, 3) := by decide +kernel
theorem d_Mo_where_50 : decode b_Mo_where 50 = .ok (.iload_n 1, 1) := by decide +kernel
theorem d_Mo_where_51 : decode b_Mo_where 51 = .ok (.i2l, 1) := by decide +kernel
theorem d_Mo_where_52 : decode b_Mo_where 52 = .ok (.invokestatic 70, 3) := by decide +kernel
theorem d_Mo_where_55 : decode b_Mo_where 55 = .ok (.lstore 5, 2) := by decide +kernel
theorem d_Mo_where_57 : decode b_Mo_where 57 = .ok (.iload_n 2, 1) := by decide +kernel
theorem d_Mo_where_58 : decode b_Mo_where 58 = .ok (.tableswitch 107 0 6 #[42, 45, 56, 74, 80, 88, 98], 42) := by decide +kernel
theorem d_Mo_where_100 : decode b_Mo_where 100 = .ok (.lload_n 3, 1) := by decide +kernel
theorem d_Mo_where_101 : decode b_Mo_where 101 = .ok (.l2i, 1) := by decide +kernel
theorem d_Mo_where_102 : decode b_Mo_where 102 = .ok (.ireturn, 1) := by decide +kernel
theorem d_Mo_where_103 : decode b_Mo_where 103 = .ok (.aload_n 0, 1) := by decide +kernel
theorem d_Mo_where_104 : decode b_Mo_where 104 = .ok (.getfield 7, 3) := by decide +kernel
theorem d_Mo_where_107 : decode b_Mo_where 107 = .ok (.iload_n 1, 1) := by decide +kernel
theorem d_Mo_where_108 : decode b_Mo_where 108 = .ok (.i2l, 1) := by decide +kernel
theorem d_Mo_where_109 : decode b_Mo_where 109 = .ok (.invokestatic 94, 3) := by decide +kernel
theorem d_Mo_where_112 : decode b_Mo_where 112 = .ok (.l2i, 1) := by decide +kernel
theorem d_Mo_where_113 : decode b_Mo_where 113 = .ok (.ireturn, 1) := by decide +kernel
theorem d_Mo_where_114 : decode b_Mo_where 114 = .ok (.aload_n 0, 1) := by decide +kernel
theorem d_Mo_where_115 : decode b_Mo_where 115 = .ok (.getfield 7, 3) := by decide +kernel
theorem d_Mo_where_118 : decode b_Mo_where 118 = .ok (.iload_n 1, 1) := by decide +kernel
theorem d_Mo_where_119 : decode b_Mo_where 119 = .ok (.i2l, 1) := by decide +kernel
theorem d_Mo_where_120 : decode b_Mo_where 120 = .ok (.invokestatic 57, 3) := by decide +kernel
theorem d_Mo_where_123 : decode b_Mo_where 123 = .ok (.ifCond .eq 7, 3) := by decide +kernel
theorem d_Mo_where_126 : decode b_Mo_where 126 = .ok (.iconst 1, 1) := by decide +kernel
theorem d_Mo_where_127 : decode b_Mo_where 127 = .ok (.goto 4, 3) := by decide +kernel
theorem d_Mo_where_130 : decode b_Mo_where 130 = .ok (.iconst 0, 1) := by decide +kernel
theorem d_Mo_where_131 : decode b_Mo_where 131 = .ok (.ireturn, 1) := by decide +kernel
theorem d_Mo_where_132 : decode b_Mo_where 132 = .ok (.lload_n 3, 1) := by decide +kernel
theorem d_Mo_where_133 : decode b_Mo_where 133 = .ok (.lload 5, 2) := by decide +kernel
theorem d_Mo_where_135 : decode b_Mo_where 135 = .ok (.ladd, 1) := by decide +kernel
theorem d_Mo_where_136 : decode b_Mo_where 136 = .ok (.l2i, 1) := by decide +kernel
theorem d_Mo_where_137 : decode b_Mo_where 137 = .ok (.ireturn, 1) := by decide +kernel
theorem d_Mo_where_138 : decode b_Mo_where 138 = .ok (.lload_n 3, 1) := by decide +kernel
theorem d_Mo_where_139 : decode b_Mo_where 139 = .ok (.lload 5, 2) := by decide +kernel
theorem d_Mo_where_141 : decode b_Mo_where 141 = .ok (.ladd, 1) := by decide +kernel
theorem d_Mo_where_142 : decode b_Mo_where 142 = .ok (.lconst 1, 1) := by decide +kernel
theorem d_Mo_where_143 : decode b_Mo_where 143 = .ok (.ladd, 1) := by decide +kernel
theorem d_Mo_where_144 : decode b_Mo_where 144 = .ok (.l2i, 1) := by decide +kernel
theorem d_Mo_where_145 : decode b_Mo_where 145 = .ok (.ireturn, 1) := by decide +kernel
theorem d_Mo_where_146 : decode b_Mo_where 146 = .ok (.lload_n 3, 1) := by decide +kernel
theorem d_Mo_where_147 : decode b_Mo_where 147 = .ok (.lload 5, 2) := by decide +kernel
theorem d_Mo_where_149 : decode b_Mo_where 149 = .ok (.ladd, 1) := by decide +kernel
theorem d_Mo_where_150 : decode b_Mo_where 150 = .ok (.ldc2_w 41, 3) := by decide +kernel
theorem d_Mo_where_153 : decode b_Mo_where 153 = .ok (.ladd, 1) := by decide +kernel
theorem d_Mo_where_154 : decode b_Mo_where 154 = .ok (.l2i, 1) := by decide +kernel
theorem d_Mo_where_155 : decode b_Mo_where 155 = .ok (.ireturn, 1) := by decide +kernel
theorem d_Mo_where_156 : decode b_Mo_where 156 = .ok (.aload_n 0, 1) := by decide +kernel
theorem d_Mo_where_157 : decode b_Mo_where 157 = .ok (.getfield 7, 3) := by decide +kernel
theorem d_Mo_where_160 : decode b_Mo_where 160 = .ok (.invokestatic 73, 3) := by decide +kernel
theorem d_Mo_where_163 : decode b_Mo_where 163 = .ok (.l2i, 1) := by decide +kernel
theorem d_Mo_where_164 : decode b_Mo_where 164 = .ok (.ireturn, 1) := by decide +kernel
theorem d_Mo_where_165 : decode b_Mo_where 165 = .ok (.aload_n 0, 1) := by decide +kernel
theorem d_Mo_where_166 : decode b_Mo_where 166 = .ok (.getfield 7, 3) := by decide +kernel
theorem d_Mo_where_169 : decode b_Mo_where 169 = .ok (.iload_n 1, 1) := by decide +kernel
theorem d_Mo_where_170 : decode b_Mo_where 170 = .ok (.i2l, 1) := by decide +kernel
theorem d_Mo_where_171 : decode b_Mo_where 171 = .ok (.invokestatic 97, 3) := by decide +kernel
theorem d_Mo_where_174 : decode b_Mo_where 174 = .ok (.l2i, 1) := by decide +kernel
theorem d_Mo_where_175 : decode b_Mo_where 175 = .ok (.ireturn, 1) := by decide +kernel
theorem d_Mo_record_0 : decode b_Mo_record 0 = .ok (.aload_n 0, 1) := by decide +kernel
theorem d_Mo_record_1 : decode b_Mo_record 1 = .ok (.invokevirtual 150, 3) := by decide +kernel
theorem d_Mo_record_4 : decode b_Mo_record 4 = .ok (.ifCond .eq 23, 3) := by decide +kernel
theorem d_Mo_record_7 : decode b_Mo_record 7 = .ok (.iload_n 1, 1) := by decide +kernel
theorem d_Mo_record_8 : decode b_Mo_record 8 = .ok (.iconst 1, 1) := by decide +kernel
theorem d_Mo_record_9 : decode b_Mo_record 9 = .ok (.if_icmp .lt 18, 3) := by decide +kernel
theorem d_Mo_record_12 : decode b_Mo_record 12 = .ok (.iload_n 1, 1) := by decide +kernel
theorem d_Mo_record_13 : decode b_Mo_record 13 = .ok (.i2l, 1) := by decide +kernel
theorem d_Mo_record_14 : decode b_Mo_record 14 = .ok (.aload_n 0, 1) := by decide +kernel
theorem d_Mo_record_15 : decode b_Mo_record 15 = .ok (.getfield 7, 3) := by decide +kernel
theorem d_Mo_record_18 : decode b_Mo_record 18 = .ok (.iconst 0, 1) := by decide +kernel
theorem d_Mo_record_19 : decode b_Mo_record 19 = .ok (.iconst 4, 1) := by decide +kernel
theorem d_Mo_record_20 : decode b_Mo_record 20 = .ok (.invokestatic 27, 3) := by decide +kernel
theorem d_Mo_record_23 : decode b_Mo_record 23 = .ok (.lcmp, 1) := by decide +kernel
theorem d_Mo_record_24 : decode b_Mo_record 24 = .ok (.ifCond .le 5, 3) := by decide +kernel
theorem d_Mo_record_27 : decode b_Mo_record 27 = .ok (.iconst (-1), 1) := by decide +kernel
theorem d_Mo_record_28 : decode b_Mo_record 28 = .ok (.ireturn, 1) := by decide +kernel
theorem d_Mo_record_29 : decode b_Mo_record 29 = .ok (.aload_n 0, 1) := by decide +kernel
theorem d_Mo_record_30 : decode b_Mo_record 30 = .ok (.getfield 7, 3) := by decide +kernel
theorem d_Mo_record_33 : decode b_Mo_record 33 = .ok (.bipush 40, 2) := by decide +kernel
theorem d_Mo_record_35 : decode b_Mo_record 35 = .ok (.iconst 4, 1) := by decide +kernel
theorem d_Mo_record_36 : decode b_Mo_record 36 = .ok (.invokestatic 27, 3) := by decide +kernel
theorem d_Mo_record_39 : decode b_Mo_record 39 = .ok (.lstore_n 3, 1) := by decide +kernel
theorem d_Mo_record_40 : decode b_Mo_record 40 = .ok (.iload_n 1, 1) := by decide +kernel
theorem d_Mo_record_41 : decode b_Mo_record 41 = .ok (.i2l, 1) := by decide +kernel
theorem d_Mo_record_42 : decode b_Mo_record 42 = .ok (.lconst 1, 1) := by decide +kernel
theorem d_Mo_record_43 : decode b_Mo_record 43 = .ok (.lsub, 1) := by decide +kernel
theorem d_Mo_record_44 : decode b_Mo_record 44 = .ok (.lload_n 3, 1) := by decide +kernel
theorem d_Mo_record_45 : decode b_Mo_record 45 = .ok (.ldiv, 1) := by decide +kernel
theorem d_Mo_record_46 : decode b_Mo_record 46 = .ok (.lstore 5, 2) := by decide +kernel
theorem d_Mo_record_48 : decode b_Mo_record 48 = .ok (.iload_n 1, 1) := by decide +kernel
theorem d_Mo_record_49 : decode b_Mo_record 49 = .ok (.i2l, 1) := by decide +kernel
theorem d_Mo_record_50 : decode b_Mo_record 50 = .ok (.lconst 1, 1) := by decide +kernel
theorem d_Mo_record_51 : decode b_Mo_record 51 = .ok (.lsub, 1) := by decide +kernel
theorem d_Mo_record_52 : decode b_Mo_record 52 = .ok (.lload_n 3, 1) := by decide +kernel
theorem d_Mo_record_53 : decode b_Mo_record 53 = .ok (.lrem, 1) := by decide +kernel
theorem d_Mo_record_54 : decode b_Mo_record 54 = .ok (.aload_n 0, 1) := by decide +kernel
theorem d_Mo_record_55 : decode b_Mo_record 55 = .ok (.getfield 7, 3) := by decide +kernel
theorem d_Mo_record_58 : decode b_Mo_record 58 = .ok (.bipush 88, 2) := by decide +kernel
theorem d_Mo_record_60 : decode b_Mo_record 60 = .ok (.iconst 2, 1) := by decide +kernel
theorem d_Mo_record_61 : decode b_Mo_record 61 = .ok (.invokestatic 27, 3) := by decide +kernel
theorem d_Mo_record_64 : decode b_Mo_record 64 = .ok (.lmul, 1) := by decide +kernel
theorem d_Mo_record_65 : decode b_Mo_record 65 = .ok (.lstore 7, 2) := by decide +kernel
theorem d_Mo_record_67 : decode b_Mo_record 67 = .ok (.iload_n 2, 1) := by decide +kernel
theorem d_Mo_record_68 : decode b_Mo_record 68 = .ok (.ifCond .eq 16, 3) := by decide +kernel
theorem d_Mo_record_71 : decode b_Mo_record 71 = .ok (.lload 7, 2) := by decide +kernel
theorem d_Mo_record_73 : decode b_Mo_record 73 = .ok (.aload_n 0, 1) := by decide +kernel
theorem d_Mo_record_74 : decode b_Mo_record 74 = .ok (.getfield 7, 3) := by decide +kernel
theorem d_Mo_record_77 : decode b_Mo_record 77 = .ok (.invokestatic 67, 3) := by decide +kernel
theorem d_Mo_record_80 : decode b_Mo_record 80 = .ok (.lrem, 1) := by decide +kernel
theorem d_Mo_record_81 : decode b_Mo_record 81 = .ok (.goto 23, 3) := by decide +kernel
theorem d_Mo_record_84 : decode b_Mo_record 84 = .ok (.aload_n 0, 1) := by decide +kernel
theorem d_Mo_record_85 : decode b_Mo_record 85 = .ok (.lload 5, 2) := by decide +kernel
theorem d_Mo_record_87 : decode b_Mo_record 87 = .ok (.l2i, 1) := by decide +kernel
theorem d_Mo_record_88 : decode b_Mo_record 88 = .ok (.iconst 5, 1) := by decide +kernel
theorem d_Mo_record_89 : decode b_Mo_record 89 = .ok (.invokevirtual 177, 3) := by decide +kernel
theorem d_Mo_record_92 : decode b_Mo_record 92 = .ok (.i2l, 1) := by decide +kernel
theorem d_Mo_record_93 : decode b_Mo_record 93 = .ok (.lload 7, 2) := by decide +kernel
theorem d_Mo_record_95 : decode b_Mo_record 95 = .ok (.aload_n 0, 1) := by decide +kernel
theorem d_Mo_record_96 : decode b_Mo_record 96 = .ok (.getfield 7, 3) := by decide +kernel
theorem d_Mo_record_99 : decode b_Mo_record 99 = .ok (.invokestatic 67, 3) := by decide +kernel
theorem d_Mo_record_102 : decode b_Mo_record 102 = .ok (.ldiv, 1) := by decide +kernel
theorem d_Mo_record_103 : decode b_Mo_record 103 = .ok (.ladd, 1) := by decide +kernel
theorem d_Mo_record_104 : decode b_Mo_record 104 = .ok (.l2i, 1) := by decide +kernel
theorem d_Mo_record_105 : decode b_Mo_record 105 = .ok (.ireturn, 1) := by decide +kernel
