theorem d_FR_init_0 : decode b_FR_init 0 = .ok (.aload_n 0, 1) := by decide +kernel
theorem d_FR_init_1 : decode b_FR_init 1 = .ok (.invokespecial 3, 3) := by decide +kernel
theorem d_FR_init_4 : decode b_FR_init 4 = .ok (.aload_n 0, 1) := by decide +kernel
theorem d_FR_init_5 : decode b_FR_init 5 = .ok (.new 9, 3) := by decide +kernel
theorem d_FR_init_8 : decode b_FR_init 8 = .ok (.dup, 1) := by decide +kernel
theorem d_FR_init_9 : decode b_FR_init 9 = .ok (.invokespecial 11, 3) := by decide +kernel
theorem d_FR_init_12 : decode b_FR_init 12 = .ok (.putfield 12, 3) := by decide +kernel
theorem d_FR_init_15 : decode b_FR_init 15 = .ok (.aload_n 0, 1) := by decide +kernel
theorem d_FR_init_16 : decode b_FR_init 16 = .ok (.new 9, 3) := by decide +kernel
theorem d_FR_init_19 : decode b_FR_init 19 = .ok (.dup, 1) := by decide +kernel
theorem d_FR_init_20 : decode b_FR_init 20 = .ok (.invokespecial 11, 3) := by decide +kernel
theorem d_FR_init_23 : decode b_FR_init 23 = .ok (.putfield 16, 3) := by decide +kernel
theorem d_FR_init_26 : decode b_FR_init 26 = .ok (.aload_n 0, 1) := by decide +kernel
theorem d_FR_init_27 : decode b_FR_init 27 = .ok (.new 9, 3) := by decide +kernel
theorem d_FR_init_30 : decode b_FR_init 30 = .ok (.dup, 1) := by decide +kernel
theorem d_FR_init_31 : decode b_FR_init 31 = .ok (.invokespecial 11, 3) := by decide +kernel
theorem d_FR_init_34 : decode b_FR_init 34 = .ok (.putfield 19, 3) := by decide +kernel
theorem d_FR_init_37 : decode b_FR_init 37 = .ok (.aload_n 0, 1) := by decide +kernel
theorem d_FR_init_38 : decode b_FR_init 38 = .ok (.new 22, 3) := by decide +kernel
theorem d_FR_init_41 : decode b_FR_init 41 = .ok (.dup, 1) := by decide +kernel
theorem d_FR_init_42 : decode b_FR_init 42 = .ok (.invokespecial 24, 3) := by decide +kernel
theorem d_FR_init_45 : decode b_FR_init 45 = .ok (.putfield 25, 3) := by decide +kernel
theorem d_FR_init_48 : decode b_FR_init 48 = .ok (.aload_n 0, 1) := by decide +kernel
theorem d_FR_init_49 : decode b_FR_init 49 = .ok (.sipush 1024, 3) := by decide +kernel
theorem d_FR_init_52 : decode b_FR_init 52 = .ok (.sipush 256, 3) := by decide +kernel
theorem d_FR_init_55 : decode b_FR_init 55 = .ok (.sipush 128, 3) := by decide +kernel
theorem d_FR_init_58 : decode b_FR_init 58 = .ok (.sipush 256, 3) := by decide +kernel
theorem d_FR_init_61 : decode b_FR_init 61 = .ok (.iconst 2, 1) := by decide +kernel
theorem d_FR_init_62 : decode b_FR_init 62 = .ok (.invokevirtual 29, 3) := by decide +kernel
theorem d_FR_init_65 : decode b_FR_init 65 = .ok (.pop, 1) := by decide +kernel
theorem d_FR_init_66 : decode b_FR_init 66 = .ok (.return_, 1) := by decide +kernel
theorem d_FR_lay_0 : decode b_FR_lay 0 = .ok (.iload 4, 2) := by decide +kernel
theorem d_FR_lay_2 : decode b_FR_lay 2 = .ok (.ifCond .lt 10, 3) := by decide +kernel
theorem d_FR_lay_5 : decode b_FR_lay 5 = .ok (.iload 4, 2) := by decide +kernel
theorem d_FR_lay_7 : decode b_FR_lay 7 = .ok (.ldc 33, 2) := by decide +kernel
theorem d_FR_lay_9 : decode b_FR_lay 9 = .ok (.if_icmp .le 5, 3) := by decide +kernel
theorem d_FR_lay_12 : decode b_FR_lay 12 = .ok (.iconst (-1), 1) := by decide +kernel
theorem d_FR_lay_13 : decode b_FR_lay 13 = .ok (.ireturn, 1) := by decide +kernel
theorem d_FR_lay_14 : decode b_FR_lay 14 = .ok (.aload_n 0, 1) := by decide +kernel
theorem d_FR_lay_15 : decode b_FR_lay 15 = .ok (.getfield 19, 3) := by decide +kernel
theorem d_FR_lay_18 : decode b_FR_lay 18 = .ok (.invokevirtual 34, 3) := by decide +kernel
theorem d_FR_lay_21 : decode b_FR_lay 21 = .ok (.aload_n 0, 1) := by decide +kernel
theorem d_FR_lay_22 : decode b_FR_lay 22 = .ok (.getfield 19, 3) := by decide +kernel
theorem d_FR_lay_25 : decode b_FR_lay 25 = .ok (.invokevirtual 37, 3) := by decide +kernel
theorem d_FR_lay_28 : decode b_FR_lay 28 = .ok (.aload_n 0, 1) := by decide +kernel
theorem d_FR_lay_29 : decode b_FR_lay 29 = .ok (.getfield 19, 3) := by decide +kernel
theorem d_FR_lay_32 : decode b_FR_lay 32 = .ok (.iconst 4, 1) := by decide +kernel
theorem d_FR_lay_33 : decode b_FR_lay 33 = .ok (.iconst 4, 1) := by decide +kernel
theorem d_FR_lay_34 : decode b_FR_lay 34 = .ok (.iload_n 1, 1) := by decide +kernel
theorem d_FR_lay_35 : decode b_FR_lay 35 = .ok (.i2l, 1) := by decide +kernel
theorem d_FR_lay_36 : decode b_FR_lay 36 = .ok (.invokevirtual 40, 3) := by decide +kernel
theorem d_FR_lay_39 : decode b_FR_lay 39 = .ok (.aload_n 0, 1) := by decide +kernel
theorem d_FR_lay_40 : decode b_FR_lay 40 = .ok (.getfield 19, 3) := by decide +kernel
theorem d_FR_lay_43 : decode b_FR_lay 43 = .ok (.bipush 20, 2) := by decide +kernel
theorem d_FR_lay_45 : decode b_FR_lay 45 = .ok (.iconst 4, 1) := by decide +kernel
theorem d_FR_lay_46 : decode b_FR_lay 46 = .ok (.iload 5, 2) := by decide +kernel
theorem d_FR_lay_48 : decode b_FR_lay 48 = .ok (.i2l, 1) := by decide +kernel
theorem d_FR_lay_49 : decode b_FR_lay 49 = .ok (.invokestatic 44, 3) := by decide +kernel
theorem d_FR_lay_52 : decode b_FR_lay 52 = .ok (.i2l, 1) := by decide +kernel
theorem d_FR_lay_53 : decode b_FR_lay 53 = .ok (.invokevirtual 40, 3) := by decide +kernel
theorem d_FR_lay_56 : decode b_FR_lay 56 = .ok (.aload_n 0, 1) := by decide +kernel
theorem d_FR_lay_57 : decode b_FR_lay 57 = .ok (.getfield 19, 3) := by decide +kernel
theorem d_FR_lay_60 : decode b_FR_lay 60 = .ok (.bipush 24, 2) := by decide +kernel
theorem d_FR_lay_62 : decode b_FR_lay 62 = .ok (.iconst 4, 1) := by decide +kernel
theorem d_FR_lay_63 : decode b_FR_lay 63 = .ok (.iload 5, 2) := by decide +kernel
theorem d_FR_lay_65 : decode b_FR_lay 65 = .ok (.i2l, 1) := by decide +kernel
theorem d_FR_lay_66 : decode b_FR_lay 66 = .ok (.invokevirtual 40, 3) := by decide +kernel
theorem d_FR_lay_69 : decode b_FR_lay 69 = .ok (.aload_n 0, 1) := by decide +kernel
theorem d_FR_lay_70 : decode b_FR_lay 70 = .ok (.getfield 19, 3) := by decide +kernel
theorem d_FR_lay_73 : decode b_FR_lay 73 = .ok (.bipush 28, 2) := by decide +kernel
theorem d_FR_lay_75 : decode b_FR_lay 75 = .ok (.iconst 4, 1) := by decide +kernel
theorem d_FR_lay_76 : decode b_FR_lay 76 = .ok (.iload 5, 2) := by decide +kernel
theorem d_FR_lay_78 : decode b_FR_lay 78 = .ok (.i2l, 1) := by decide +kernel
theorem d_FR_lay_79 : decode b_FR_lay 79 = .ok (.invokevirtual 40, 3) := by decide +kernel
theorem d_FR_lay_82 : decode b_FR_lay 82 = .ok (.aload_n 0, 1) := by decide +kernel
theorem d_FR_lay_83 : decode b_FR_lay 83 = .ok (.getfield 19, 3) := by decide +kernel
theorem d_FR_lay_86 : decode b_FR_lay 86 = .ok (.bipush 32, 2) := by decide +kernel
theorem d_FR_lay_88 : decode b_FR_lay 88 = .ok (.iconst 4, 1) := by decide +kernel
theorem d_FR_lay_89 : decode b_FR_lay 89 = .ok (.iload_n 2, 1) := by decide +kernel
theorem d_FR_lay_90 : decode b_FR_lay 90 = .ok (.i2l, 1) := by decide +kernel
theorem d_FR_lay_91 : decode b_FR_lay 91 = .ok (.invokevirtual 40, 3) := by decide +kernel
theorem d_FR_lay_94 : decode b_FR_lay 94 = .ok (.aload_n 0, 1) := by decide +kernel
theorem d_FR_lay_95 : decode b_FR_lay 95 = .ok (.getfield 19, 3) := by decide +kernel
theorem d_FR_lay_98 : decode b_FR_lay 98 = .ok (.bipush 36, 2) := by decide +kernel
theorem d_FR_lay_100 : decode b_FR_lay 100 = .ok (.iconst 4, 1) := by decide +kernel
theorem d_FR_lay_101 : decode b_FR_lay 101 = .ok (.iload_n 2, 1) := by decide +kernel
theorem d_FR_lay_102 : decode b_FR_lay 102 = .ok (.i2l, 1) := by decide +kernel
theorem d_FR_lay_103 : decode b_FR_lay 103 = .ok (.invokevirtual 40, 3) := by decide +kernel
theorem d_FR_lay_106 : decode b_FR_lay 106 = .ok (.aload_n 0, 1) := by decide +kernel
theorem d_FR_lay_107 : decode b_FR_lay 107 = .ok (.getfield 19, 3) := by decide +kernel
theorem d_FR_lay_110 : decode b_FR_lay 110 = .ok (.bipush 40, 2) := by decide +kernel
theorem d_FR_lay_112 : decode b_FR_lay 112 = .ok (.iconst 4, 1) := by decide +kernel
theorem d_FR_lay_113 : decode b_FR_lay 113 = .ok (.iload_n 3, 1) := by decide +kernel
theorem d_FR_lay_114 : decode b_FR_lay 114 = .ok (.i2l, 1) := by decide +kernel
theorem d_FR_lay_115 : decode b_FR_lay 115 = .ok (.invokevirtual 40, 3) := by decide +kernel
theorem d_FR_lay_118 : decode b_FR_lay 118 = .ok (.aload_n 0, 1) := by decide +kernel
theorem d_FR_lay_119 : decode b_FR_lay 119 = .ok (.getfield 19, 3) := by decide +kernel
theorem d_FR_lay_122 : decode b_FR_lay 122 = .ok (.bipush 88, 2) := by decide +kernel
theorem d_FR_lay_124 : decode b_FR_lay 124 = .ok (.iconst 2, 1) := by decide +kernel
theorem d_FR_lay_125 : decode b_FR_lay 125 = .ok (.iload 4, 2) := by decide +kernel
theorem d_FR_lay_127 : decode b_FR_lay 127 = .ok (.i2l, 1) := by decide +kernel
theorem d_FR_lay_128 : decode b_FR_lay 128 = .ok (.invokevirtual 40, 3) := by decide +kernel
theorem d_FR_lay_131 : decode b_FR_lay 131 = .ok (.aload_n 0, 1) := by decide +kernel
theorem d_FR_lay_132 : decode b_FR_lay 132 = .ok (.getfield 25, 3) := by decide +kernel
theorem d_FR_lay_135 : decode b_FR_lay 135 = .ok (.aload_n 0, 1) := by decide +kernel
theorem d_FR_lay_136 : decode b_FR_lay 136 = .ok (.getfield 19, 3) := by decide +kernel
theorem d_FR_lay_139 : decode b_FR_lay 139 = .ok (.invokevirtual 48, 3) := by decide +kernel
theorem d_FR_lay_142 : decode b_FR_lay 142 = .ok (.aload_n 0, 1) := by decide +kernel
theorem d_FR_lay_143 : decode b_FR_lay 143 = .ok (.getfield 19, 3) := by decide +kernel
theorem d_FR_lay_146 : decode b_FR_lay 146 = .ok (.iconst 0, 1) := by decide +kernel
theorem d_FR_lay_147 : decode b_FR_lay 147 = .ok (.iconst 4, 1) := by decide +kernel
theorem d_FR_lay_148 : decode b_FR_lay 148 = .ok (.aload_n 0, 1) := by decide +kernel
theorem d_FR_lay_149 : decode b_FR_lay 149 = .ok (.getfield 25, 3) := by decide +kernel
theorem d_FR_lay_152 : decode b_FR_lay 152 = .ok (.getfield 52, 3) := by decide +kernel
theorem d_FR_lay_155 : decode b_FR_lay 155 = .ok (.iload_n 3, 1) := by decide +kernel
theorem d_FR_lay_156 : decode b_FR_lay 156 = .ok (.i2l, 1) := by decide +kernel
theorem d_FR_lay_157 : decode b_FR_lay 157 = .ok (.lmul, 1) := by decide +kernel
theorem d_FR_lay_158 : decode b_FR_lay 158 = .ok (.invokevirtual 40, 3) := by decide +kernel
theorem d_FR_lay_161 : decode b_FR_lay 161 = .ok (.aload_n 0, 1) := by decide +kernel
theorem d_FR_lay_162 : decode b_FR_lay 162 = .ok (.getfield 25, 3) := by decide +kernel
theorem d_FR_lay_165 : decode b_FR_lay 165 = .ok (.aload_n 0, 1) := by decide +kernel
theorem d_FR_lay_166 : decode b_FR_lay 166 = .ok (.getfield 19, 3) := by decide +kernel
theorem d_FR_lay_169 : decode b_FR_lay 169 = .ok (.invokevirtual 56, 3) := by decide +kernel
theorem d_FR_lay_172 : decode b_FR_lay 172 = .ok (.bipush (-2), 2) := by decide +kernel
theorem d_FR_lay_174 : decode b_FR_lay 174 = .ok (.if_icmp .eq 5, 3) := by decide +kernel
theorem d_FR_lay_177 : decode b_FR_lay 177 = .ok (.iconst (-1), 1) := by decide +kernel
theorem d_FR_lay_178 : decode b_FR_lay 178 = .ok (.ireturn, 1) := by decide +kernel
theorem d_FR_lay_179 : decode b_FR_lay 179 = .ok (.aload_n 0, 1) := by decide +kernel
theorem d_FR_lay_180 : decode b_FR_lay 180 = .ok (.getfield 12, 3) := by decide +kernel
theorem d_FR_lay_183 : decode b_FR_lay 183 = .ok (.aload_n 0, 1) := by decide +kernel
theorem d_FR_lay_184 : decode b_FR_lay 184 = .ok (.getfield 19, 3) := by decide +kernel
theorem d_FR_lay_187 : decode b_FR_lay 187 = .ok (.invokevirtual 60, 3) := by decide +kernel
theorem d_FR_lay_190 : decode b_FR_lay 190 = .ok (.aload_n 0, 1) := by decide +kernel
theorem d_FR_lay_191 : decode b_FR_lay 191 = .ok (.getfield 16, 3) := by decide +kernel
theorem d_FR_lay_194 : decode b_FR_lay 194 = .ok (.aload_n 0, 1) := by decide +kernel
theorem d_FR_lay_195 : decode b_FR_lay 195 = .ok (.getfield 19, 3) := by decide +kernel
theorem d_FR_lay_198 : decode b_FR_lay 198 = .ok (.invokevirtual 60, 3) := by decide +kernel
theorem d_FR_lay_201 : decode b_FR_lay 201 = .ok (.aload_n 0, 1) := by decide +kernel
theorem d_FR_lay_202 : decode b_FR_lay 202 = .ok (.getfield 25, 3) := by decide +kernel
theorem d_FR_lay_205 : decode b_FR_lay 205 = .ok (.getfield 52, 3) := by decide +kernel
theorem d_FR_lay_208 : decode b_FR_lay 208 = .ok (.l2i, 1) := by decide +kernel
theorem d_FR_lay_209 : decode b_FR_lay 209 = .ok (.ireturn, 1) := by decide +kernel
theorem d_FR_poke_0 : decode b_FR_poke 0 = .ok (.aload_n 0, 1) := by decide +kernel
theorem d_FR_poke_1 : decode b_FR_poke 1 = .ok (.iload_n 1, 1) := by decide +kernel
theorem d_FR_poke_2 : decode b_FR_poke 2 = .ok (.invokevirtual 63, 3) := by decide +kernel
theorem d_FR_poke_5 : decode b_FR_poke 5 = .ok (.astore 4, 2) := by decide +kernel
theorem d_FR_poke_7 : decode b_FR_poke 7 = .ok (.aload 4, 2) := by decide +kernel
theorem d_FR_poke_9 : decode b_FR_poke 9 = .ok (.ifnull 22, 3) := by decide +kernel
theorem d_FR_poke_12 : decode b_FR_poke 12 = .ok (.iload_n 2, 1) := by decide +kernel
theorem d_FR_poke_13 : decode b_FR_poke 13 = .ok (.iconst 1, 1) := by decide +kernel
theorem d_FR_poke_14 : decode b_FR_poke 14 = .ok (.invokestatic 67, 3) := by decide +kernel
theorem d_FR_poke_17 : decode b_FR_poke 17 = .ok (.ifCond .eq 14, 3) := by decide +kernel
theorem d_FR_poke_20 : decode b_FR_poke 20 = .ok (.iload_n 3, 1) := by decide +kernel
theorem d_FR_poke_21 : decode b_FR_poke 21 = .ok (.ifCond .lt 10, 3) := by decide +kernel
theorem d_FR_poke_24 : decode b_FR_poke 24 = .ok (.iload_n 3, 1) := by decide +kernel
theorem d_FR_poke_25 : decode b_FR_poke 25 = .ok (.sipush 255, 3) := by decide +kernel
theorem d_FR_poke_28 : decode b_FR_poke 28 = .ok (.if_icmp .le 5, 3) := by decide +kernel
theorem d_FR_poke_31 : decode b_FR_poke 31 = .ok (.iconst (-1), 1) := by decide +kernel
theorem d_FR_poke_32 : decode b_FR_poke 32 = .ok (.ireturn, 1) := by decide +kernel
theorem d_FR_poke_33 : decode b_FR_poke 33 = .ok (.aload 4, 2) := by decide +kernel
theorem d_FR_poke_35 : decode b_FR_poke 35 = .ok (.iload_n 2, 1) := by decide +kernel
theorem d_FR_poke_36 : decode b_FR_poke 36 = .ok (.iconst 1, 1) := by decide +kernel
theorem d_FR_poke_37 : decode b_FR_poke 37 = .ok (.invokevirtual 71, 3) := by decide +kernel
theorem d_FR_poke_40 : decode b_FR_poke 40 = .ok (.l2i, 1) := by decide +kernel
theorem d_FR_poke_41 : decode b_FR_poke 41 = .ok (.istore 5, 2) := by decide +kernel
theorem d_FR_poke_43 : decode b_FR_poke 43 = .ok (.aload 4, 2) := by decide +kernel
theorem d_FR_poke_45 : decode b_FR_poke 45 = .ok (.iload_n 2, 1) := by decide +kernel
theorem d_FR_poke_46 : decode b_FR_poke 46 = .ok (.iconst 1, 1) := by decide +kernel
theorem d_FR_poke_47 : decode b_FR_poke 47 = .ok (.iload_n 3, 1) := by decide +kernel
theorem d_FR_poke_48 : decode b_FR_poke 48 = .ok (.i2l, 1) := by decide +kernel
theorem d_FR_poke_49 : decode b_FR_poke 49 = .ok (.invokevirtual 40, 3) := by decide +kernel
theorem d_FR_poke_52 : decode b_FR_poke 52 = .ok (.iload 5, 2) := by decide +kernel
theorem d_FR_poke_54 : decode b_FR_poke 54 = .ok (.ireturn, 1) := by decide +kernel
theorem d_FR_put_0 : decode b_FR_put 0 = .ok (.aload_n 0, 1) := by decide +kernel
theorem d_FR_put_1 : decode b_FR_put 1 = .ok (.iload_n 1, 1) := by decide +kernel
theorem d_FR_put_2 : decode b_FR_put 2 = .ok (.invokevirtual 63, 3) := by decide +kernel
theorem d_FR_put_5 : decode b_FR_put 5 = .ok (.astore 5, 2) := by decide +kernel
theorem d_FR_put_7 : decode b_FR_put 7 = .ok (.aload 5, 2) := by decide +kernel
theorem d_FR_put_9 : decode b_FR_put 9 = .ok (.ifnull 11, 3) := by decide +kernel
theorem d_FR_put_12 : decode b_FR_put 12 = .ok (.iload_n 2, 1) := by decide +kernel
theorem d_FR_put_13 : decode b_FR_put 13 = .ok (.iload_n 3, 1) := by decide +kernel
theorem d_FR_put_14 : decode b_FR_put 14 = .ok (.invokestatic 67, 3) := by decide +kernel
theorem d_FR_put_17 : decode b_FR_put 17 = .ok (.ifCond .ne 5, 3) := by decide +kernel
theorem d_FR_put_20 : decode b_FR_put 20 = .ok (.iconst (-1), 1) := by decide +kernel
theorem d_FR_put_21 : decode b_FR_put 21 = .ok (.ireturn, 1) := by decide +kernel
theorem d_FR_put_22 : decode b_FR_put 22 = .ok (.aload 5, 2) := by decide +kernel
theorem d_FR_put_24 : decode b_FR_put 24 = .ok (.iload_n 2, 1) := by decide +kernel
theorem d_FR_put_25 : decode b_FR_put 25 = .ok (.iload_n 3, 1) := by decide +kernel
theorem d_FR_put_26 : decode b_FR_put 26 = .ok (.iload 4, 2) := by decide +kernel
theorem d_FR_put_28 : decode b_FR_put 28 = .ok (.i2l, 1) := by decide +kernel
theorem d_FR_put_29 : decode b_FR_put 29 = .ok (.invokevirtual 40, 3) := by decide +kernel
theorem d_FR_put_32 : decode b_FR_put 32 = .ok (.iconst 0, 1) := by decide +kernel
theorem d_FR_put_33 : decode b_FR_put 33 = .ok (.ireturn, 1) := by decide +kernel
theorem d_FR_get_0 : decode b_FR_get 0 = .ok (.aload_n 0, 1) := by decide +kernel
theorem d_FR_get_1 : decode b_FR_get 1 = .ok (.iload_n 1, 1) := by decide +kernel
theorem d_FR_get_2 : decode b_FR_get 2 = .ok (.invokevirtual 63, 3) := by decide +kernel
theorem d_FR_get_5 : decode b_FR_get 5 = .ok (.astore 4, 2) := by decide +kernel
theorem d_FR_get_7 : decode b_FR_get 7 = .ok (.aload 4, 2) := by decide +kernel
theorem d_FR_get_9 : decode b_FR_get 9 = .ok (.ifnonnull 9, 3) := by decide +kernel
theorem d_FR_get_12 : decode b_FR_get 12 = .ok (.ldc2_w 75, 3) := by decide +kernel
theorem d_FR_get_15 : decode b_FR_get 15 = .ok (.goto 10, 3) := by decide +kernel
theorem d_FR_get_18 : decode b_FR_get 18 = .ok (.aload 4, 2) := by decide +kernel
theorem d_FR_get_20 : decode b_FR_get 20 = .ok (.iload_n 2, 1) := by decide +kernel
theorem d_FR_get_21 : decode b_FR_get 21 = .ok (.iload_n 3, 1) := by decide +kernel
theorem d_FR_get_22 : decode b_FR_get 22 = .ok (.invokevirtual 71, 3) := by decide +kernel
theorem d_FR_get_25 : decode b_FR_get 25 = .ok (.lreturn, 1) := by decide +kernel
theorem d_FR_fault_0 : decode b_FR_fault 0 = .ok (.aload_n 0, 1) := by decide +kernel
theorem d_FR_fault_1 : decode b_FR_fault 1 = .ok (.iload_n 1, 1) := by decide +kernel
theorem d_FR_fault_2 : decode b_FR_fault 2 = .ok (.invokevirtual 63, 3) := by decide +kernel
theorem d_FR_fault_5 : decode b_FR_fault 5 = .ok (.astore_n 2, 1) := by decide +kernel
theorem d_FR_fault_6 : decode b_FR_fault 6 = .ok (.aload_n 2, 1) := by decide +kernel
theorem d_FR_fault_7 : decode b_FR_fault 7 = .ok (.ifnonnull 7, 3) := by decide +kernel
theorem d_FR_fault_10 : decode b_FR_fault 10 = .ok (.iconst (-1), 1) := by decide +kernel
theorem d_FR_fault_11 : decode b_FR_fault 11 = .ok (.goto 11, 3) := by decide +kernel
theorem d_FR_fault_14 : decode b_FR_fault 14 = .ok (.aload_n 0, 1) := by decide +kernel
theorem d_FR_fault_15 : decode b_FR_fault 15 = .ok (.getfield 25, 3) := by decide +kernel
theorem d_FR_fault_18 : decode b_FR_fault 18 = .ok (.aload_n 2, 1) := by decide +kernel
theorem d_FR_fault_19 : decode b_FR_fault 19 = .ok (.invokevirtual 56, 3) := by decide +kernel
theorem d_FR_fault_22 : decode b_FR_fault 22 = .ok (.ireturn, 1) := by decide +kernel
theorem d_FR_copy_0 : decode b_FR_copy 0 = .ok (.aload_n 0, 1) := by decide +kernel
theorem d_FR_copy_1 : decode b_FR_copy 1 = .ok (.iload_n 1, 1) := by decide +kernel
theorem d_FR_copy_2 : decode b_FR_copy 2 = .ok (.invokevirtual 77, 3) := by decide +kernel
theorem d_FR_copy_5 : decode b_FR_copy 5 = .ok (.ifCond .eq 15, 3) := by decide +kernel
theorem d_FR_copy_8 : decode b_FR_copy 8 = .ok (.aload_n 0, 1) := by decide +kernel
theorem d_FR_copy_9 : decode b_FR_copy 9 = .ok (.getfield 25, 3) := by decide +kernel
theorem d_FR_copy_12 : decode b_FR_copy 12 = .ok (.iload_n 1, 1) := by decide +kernel
theorem d_FR_copy_13 : decode b_FR_copy 13 = .ok (.i2l, 1) := by decide +kernel
theorem d_FR_copy_14 : decode b_FR_copy 14 = .ok (.invokevirtual 81, 3) := by decide +kernel
theorem d_FR_copy_17 : decode b_FR_copy 17 = .ok (.ifCond .ne 5, 3) := by decide +kernel
theorem d_FR_copy_20 : decode b_FR_copy 20 = .ok (.iconst (-1), 1) := by decide +kernel
theorem d_FR_copy_21 : decode b_FR_copy 21 = .ok (.ireturn, 1) := by decide +kernel
theorem d_FR_copy_22 : decode b_FR_copy 22 = .ok (.aload_n 0, 1) := by decide +kernel
theorem d_FR_copy_23 : decode b_FR_copy 23 = .ok (.getfield 16, 3) := by decide +kernel
theorem d_FR_copy_26 : decode b_FR_copy 26 = .ok (.aload_n 0, 1) := by decide +kernel
theorem d_FR_copy_27 : decode b_FR_copy 27 = .ok (.getfield 12, 3) := by decide +kernel
theorem d_FR_copy_30 : decode b_FR_copy 30 = .ok (.invokevirtual 60, 3) := by decide +kernel
theorem d_FR_copy_33 : decode b_FR_copy 33 = .ok (.aload_n 0, 1) := by decide +kernel
theorem d_FR_copy_34 : decode b_FR_copy 34 = .ok (.getfield 16, 3) := by decide +kernel
theorem d_FR_copy_37 : decode b_FR_copy 37 = .ok (.bipush 90, 2) := by decide +kernel
theorem d_FR_copy_39 : decode b_FR_copy 39 = .ok (.iconst 2, 1) := by decide +kernel
theorem d_FR_copy_40 : decode b_FR_copy 40 = .ok (.iload_n 1, 1) := by decide +kernel
theorem d_FR_copy_41 : decode b_FR_copy 41 = .ok (.i2l, 1) := by decide +kernel
theorem d_FR_copy_42 : decode b_FR_copy 42 = .ok (.invokevirtual 40, 3) := by decide +kernel
theorem d_FR_copy_45 : decode b_FR_copy 45 = .ok (.iconst 0, 1) := by decide +kernel
theorem d_FR_copy_46 : decode b_FR_copy 46 = .ok (.ireturn, 1) := by decide +kernel
theorem d_FR_differs_0 : decode b_FR_differs 0 = .ok (.iconst 0, 1) := by decide +kernel
theorem d_FR_differs_1 : decode b_FR_differs 1 = .ok (.istore_n 1, 1) := by decide +kernel
theorem d_FR_differs_2 : decode b_FR_differs 2 = .ok (.iload_n 1, 1) := by decide +kernel
theorem d_FR_differs_3 : decode b_FR_differs 3 = .ok (.sipush 1024, 3) := by decide +kernel
theorem d_FR_differs_6 : decode b_FR_differs 6 = .ok (.if_icmp .ge 40, 3) := by decide +kernel
theorem d_FR_differs_9 : decode b_FR_differs 9 = .ok (.aload_n 0, 1) := by decide +kernel
theorem d_FR_differs_10 : decode b_FR_differs 10 = .ok (.getfield 12, 3) := by decide +kernel
theorem d_FR_differs_13 : decode b_FR_differs 13 = .ok (.iload_n 1, 1) := by decide +kernel
theorem d_FR_differs_14 : decode b_FR_differs 14 = .ok (.iconst 1, 1) := by decide +kernel
theorem d_FR_differs_15 : decode b_FR_differs 15 = .ok (.invokevirtual 71, 3) := by decide +kernel
theorem d_FR_differs_18 : decode b_FR_differs 18 = .ok (.aload_n 0, 1) := by decide +kernel
theorem d_FR_differs_19 : decode b_FR_differs 19 = .ok (.getfield 16, 3) := by decide +kernel
theorem d_FR_differs_22 : decode b_FR_differs 22 = .ok (.iload_n 1, 1) := by decide +kernel
theorem d_FR_differs_23 : decode b_FR_differs 23 = .ok (.iconst 1, 1) := by decide +kernel
theorem d_FR_differs_24 : decode b_FR_differs 24 = .ok (.invokevirtual 71, 3) := by decide +kernel
theorem d_FR_differs_27 : decode b_FR_differs 27 = .ok (.lcmp, 1) := by decide +kernel
theorem d_FR_differs_28 : decode b_FR_differs 28 = .ok (.ifCond .eq 12, 3) := by decide +kernel
theorem d_FR_differs_31 : decode b_FR_differs 31 = .ok (.iload_n 1, 1) := by decide +kernel
theorem d_FR_differs_32 : decode b_FR_differs 32 = .ok (.invokestatic 85, 3) := by decide +kernel
theorem d_FR_differs_35 : decode b_FR_differs 35 = .ok (.ifCond .eq 5, 3) := by decide +kernel
theorem d_FR_differs_38 : decode b_FR_differs 38 = .ok (.iload_n 1, 1) := by decide +kernel
theorem d_FR_differs_39 : decode b_FR_differs 39 = .ok (.ireturn, 1) := by decide +kernel
theorem d_FR_differs_40 : decode b_FR_differs 40 = .ok (.iinc 1 1, 3) := by decide +kernel
theorem d_FR_differs_43 : decode b_FR_differs 43 = .ok (.goto (-41), 3) := by decide +kernel
theorem d_FR_differs_46 : decode b_FR_differs 46 = .ok (.bipush (-2), 2) := by decide +kernel
theorem d_FR_differs_48 : decode b_FR_differs 48 = .ok (.ireturn, 1) := by decide +kernel
theorem d_FR_groups_0 : decode b_FR_groups 0 = .ok (.aload_n 0, 1) := by decide +kernel
theorem d_FR_groups_1 : decode b_FR_groups 1 = .ok (.getfield 25, 3) := by decide +kernel
theorem d_FR_groups_4 : decode b_FR_groups 4 = .ok (.aload_n 0, 1) := by decide +kernel
theorem d_FR_groups_5 : decode b_FR_groups 5 = .ok (.getfield 12, 3) := by decide +kernel
theorem d_FR_groups_8 : decode b_FR_groups 8 = .ok (.invokevirtual 56, 3) := by decide +kernel
theorem d_FR_groups_11 : decode b_FR_groups 11 = .ok (.bipush (-2), 2) := by decide +kernel
theorem d_FR_groups_13 : decode b_FR_groups 13 = .ok (.if_icmp .ne 14, 3) := by decide +kernel
theorem d_FR_groups_16 : decode b_FR_groups 16 = .ok (.aload_n 0, 1) := by decide +kernel
theorem d_FR_groups_17 : decode b_FR_groups 17 = .ok (.getfield 25, 3) := by decide +kernel
theorem d_FR_groups_20 : decode b_FR_groups 20 = .ok (.getfield 52, 3) := by decide +kernel
theorem d_FR_groups_23 : decode b_FR_groups 23 = .ok (.l2i, 1) := by decide +kernel
theorem d_FR_groups_24 : decode b_FR_groups 24 = .ok (.goto 4, 3) := by decide +kernel
theorem d_FR_groups_27 : decode b_FR_groups 27 = .ok (.iconst (-1), 1) := by decide +kernel
theorem d_FR_groups_28 : decode b_FR_groups 28 = .ok (.ireturn, 1) := by decide +kernel
theorem d_FR_where_0 : decode b_FR_where 0 = .ok (.aload_n 0, 1) := by decide +kernel
theorem d_FR_where_1 : decode b_FR_where 1 = .ok (.iload_n 1, 1) := by decide +kernel
theorem d_FR_where_2 : decode b_FR_where 2 = .ok (.invokevirtual 77, 3) := by decide +kernel
theorem d_FR_where_5 : decode b_FR_where 5 = .ok (.ifCond .ne 5, 3) := by decide +kernel
theorem d_FR_where_8 : decode b_FR_where 8 = .ok (.iconst (-1), 1) := by decide +kernel
theorem d_FR_where_9 : decode b_FR_where 9 = .ok (.ireturn, 1) := by decide +kernel
theorem d_FR_where_10 : decode b_FR_where 10 = .ok (.iload_n 2, 1) := by decide +kernel
theorem d_FR_where_11 : decode b_FR_where 11 = .ok (.tableswitch 138 0 7 #[45, 56, 67, 85, 96, 107, 118, 127], 45) := by decide +kernel
theorem d_FR_where_56 : decode b_FR_where 56 = .ok (.aload_n 0, 1) := by decide +kernel
theorem d_FR_where_57 : decode b_FR_where 57 = .ok (.getfield 25, 3) := by decide +kernel
theorem d_FR_where_60 : decode b_FR_where 60 = .ok (.iload_n 1, 1) := by decide +kernel
theorem d_FR_where_61 : decode b_FR_where 61 = .ok (.i2l, 1) := by decide +kernel
theorem d_FR_where_62 : decode b_FR_where 62 = .ok (.invokevirtual 88, 3) := by decide +kernel
theorem d_FR_where_65 : decode b_FR_where 65 = .ok (.l2i, 1) := by decide +kernel
theorem d_FR_where_66 : decode b_FR_where 66 = .ok (.ireturn, 1) := by decide +kernel
theorem d_FR_where_67 : decode b_FR_where 67 = .ok (.aload_n 0, 1) := by decide +kernel
theorem d_FR_where_68 : decode b_FR_where 68 = .ok (.getfield 25, 3) := by decide +kernel
theorem d_FR_where_71 : decode b_FR_where 71 = .ok (.iload_n 1, 1) := by decide +kernel
theorem d_FR_where_72 : decode b_FR_where 72 = .ok (.i2l, 1) := by decide +kernel
theorem d_FR_where_73 : decode b_FR_where 73 = .ok (.invokevirtual 92, 3) := by decide +kernel
theorem d_FR_where_76 : decode b_FR_where 76 = .ok (.l2i, 1) := by decide +kernel
theorem d_FR_where_77 : decode b_FR_where 77 = .ok (.ireturn, 1) := by decide +kernel
theorem d_FR_where_78 : decode b_FR_where 78 = .ok (.aload_n 0, 1) := by decide +kernel
theorem d_FR_where_79 : decode b_FR_where 79 = .ok (.getfield 25, 3) := by decide +kernel
theorem d_FR_where_82 : decode b_FR_where 82 = .ok (.iload_n 1, 1) := by decide +kernel
theorem d_FR_where_83 : decode b_FR_where 83 = .ok (.i2l, 1) := by decide +kernel
theorem d_FR_where_84 : decode b_FR_where 84 = .ok (.invokevirtual 81, 3) := by decide +kernel
theorem d_FR_where_87 : decode b_FR_where 87 = .ok (.ifCond .eq 7, 3) := by decide +kernel
theorem d_FR_where_90 : decode b_FR_where 90 = .ok (.iconst 1, 1) := by decide +kernel
theorem d_FR_where_91 : decode b_FR_where 91 = .ok (.goto 4, 3) := by decide +kernel
theorem d_FR_where_94 : decode b_FR_where 94 = .ok (.iconst 0, 1) := by decide +kernel
theorem d_FR_where_95 : decode b_FR_where 95 = .ok (.ireturn, 1) := by decide +kernel
theorem d_FR_where_96 : decode b_FR_where 96 = .ok (.aload_n 0, 1) := by decide +kernel
theorem d_FR_where_97 : decode b_FR_where 97 = .ok (.getfield 25, 3) := by decide +kernel
theorem d_FR_where_100 : decode b_FR_where 100 = .ok (.iload_n 1, 1) := by decide +kernel
theorem d_FR_where_101 : decode b_FR_where 101 = .ok (.i2l, 1) := by decide +kernel
theorem d_FR_where_102 : decode b_FR_where 102 = .ok (.invokevirtual 95, 3) := by decide +kernel
theorem d_FR_where_105 : decode b_FR_where 105 = .ok (.l2i, 1) := by decide +kernel
theorem d_FR_where_106 : decode b_FR_where 106 = .ok (.ireturn, 1) := by decide +kernel
theorem d_FR_where_107 : decode b_FR_where 107 = .ok (.aload_n 0, 1) := by decide +kernel
theorem d_FR_where_108 : decode b_FR_where 108 = .ok (.getfield 25, 3) := by decide +kernel
theorem d_FR_where_111 : decode b_FR_where 111 = .ok (.iload_n 1, 1) := by decide +kernel
theorem d_FR_where_112 : decode b_FR_where 112 = .ok (.i2l, 1) := by decide +kernel
theorem d_FR_where_113 : decode b_FR_where 113 = .ok (.invokevirtual 98, 3) := by decide +kernel
theorem d_FR_where_116 : decode b_FR_where 116 = .ok (.l2i, 1) := by decide +kernel
theorem d_FR_where_117 : decode b_FR_where 117 = .ok (.ireturn, 1) := by decide +kernel
theorem d_FR_where_118 : decode b_FR_where 118 = .ok (.aload_n 0, 1) := by decide +kernel
theorem d_FR_where_119 : decode b_FR_where 119 = .ok (.getfield 25, 3) := by decide +kernel
theorem d_FR_where_122 : decode b_FR_where 122 = .ok (.iload_n 1, 1) := by decide +kernel
theorem d_FR_where_123 : decode b_FR_where 123 = .ok (.i2l, 1) := by decide +kernel
theorem d_FR_where_124 : decode b_FR_where 124 = .ok (.invokevirtual 101, 3) := by decide +kernel
theorem d_FR_where_127 : decode b_FR_where 127 = .ok (.l2i, 1) := by decide +kernel
theorem d_FR_where_128 : decode b_FR_where 128 = .ok (.ireturn, 1) := by decide +kernel
theorem d_FR_where_129 : decode b_FR_where 129 = .ok (.aload_n 0, 1) := by decide +kernel
theorem d_FR_where_130 : decode b_FR_where 130 = .ok (.getfield 25, 3) := by decide +kernel
theorem d_FR_where_133 : decode b_FR_where 133 = .ok (.getfield 104, 3) := by decide +kernel
theorem d_FR_where_136 : decode b_FR_where 136 = .ok (.l2i, 1) := by decide +kernel
theorem d_FR_where_137 : decode b_FR_where 137 = .ok (.ireturn, 1) := by decide +kernel
theorem d_FR_where_138 : decode b_FR_where 138 = .ok (.aload_n 0, 1) := by decide +kernel
theorem d_FR_where_139 : decode b_FR_where 139 = .ok (.getfield 25, 3) := by decide +kernel
theorem d_FR_where_142 : decode b_FR_where 142 = .ok (.iload_n 1, 1) := by decide +kernel
theorem d_FR_where_143 : decode b_FR_where 143 = .ok (.i2l, 1) := by decide +kernel
theorem d_FR_where_144 : decode b_FR_where 144 = .ok (.invokevirtual 107, 3) := by decide +kernel
theorem d_FR_where_147 : decode b_FR_where 147 = .ok (.l2i, 1) := by decide +kernel
theorem d_FR_where_148 : decode b_FR_where 148 = .ok (.ireturn, 1) := by decide +kernel
theorem d_FR_where_149 : decode b_FR_where 149 = .ok (.iconst (-1), 1) := by decide +kernel
theorem d_FR_where_150 : decode b_FR_where 150 = .ok (.ireturn, 1) := by decide +kernel
theorem d_FR_record_0 : decode b_FR_record 0 = .ok (.aload_n 0, 1) := by decide +kernel
theorem d_FR_record_1 : decode b_FR_record 1 = .ok (.getfield 25, 3) := by decide +kernel
theorem d_FR_record_4 : decode b_FR_record 4 = .ok (.aload_n 0, 1) := by decide +kernel
theorem d_FR_record_5 : decode b_FR_record 5 = .ok (.getfield 12, 3) := by decide +kernel
theorem d_FR_record_8 : decode b_FR_record 8 = .ok (.invokevirtual 56, 3) := by decide +kernel
theorem d_FR_record_11 : decode b_FR_record 11 = .ok (.bipush (-2), 2) := by decide +kernel
theorem d_FR_record_13 : decode b_FR_record 13 = .ok (.if_icmp .ne 21, 3) := by decide +kernel
theorem d_FR_record_16 : decode b_FR_record 16 = .ok (.iload_n 1, 1) := by decide +kernel
theorem d_FR_record_17 : decode b_FR_record 17 = .ok (.iconst 1, 1) := by decide +kernel
theorem d_FR_record_18 : decode b_FR_record 18 = .ok (.if_icmp .lt 16, 3) := by decide +kernel
theorem d_FR_record_21 : decode b_FR_record 21 = .ok (.iload_n 1, 1) := by decide +kernel
theorem d_FR_record_22 : decode b_FR_record 22 = .ok (.i2l, 1) := by decide +kernel
theorem d_FR_record_23 : decode b_FR_record 23 = .ok (.aload_n 0, 1) := by decide +kernel
theorem d_FR_record_24 : decode b_FR_record 24 = .ok (.getfield 25, 3) := by decide +kernel
theorem d_FR_record_27 : decode b_FR_record 27 = .ok (.getfield 110, 3) := by decide +kernel
theorem d_FR_record_30 : decode b_FR_record 30 = .ok (.lcmp, 1) := by decide +kernel
theorem d_FR_record_31 : decode b_FR_record 31 = .ok (.ifCond .le 5, 3) := by decide +kernel
theorem d_FR_record_34 : decode b_FR_record 34 = .ok (.iconst (-1), 1) := by decide +kernel
theorem d_FR_record_35 : decode b_FR_record 35 = .ok (.ireturn, 1) := by decide +kernel
theorem d_FR_record_36 : decode b_FR_record 36 = .ok (.iload_n 1, 1) := by decide +kernel
theorem d_FR_record_37 : decode b_FR_record 37 = .ok (.i2l, 1) := by decide +kernel
theorem d_FR_record_38 : decode b_FR_record 38 = .ok (.lconst 1, 1) := by decide +kernel
theorem d_FR_record_39 : decode b_FR_record 39 = .ok (.lsub, 1) := by decide +kernel
theorem d_FR_record_40 : decode b_FR_record 40 = .ok (.lstore_n 3, 1) := by decide +kernel
theorem d_FR_record_41 : decode b_FR_record 41 = .ok (.lload_n 3, 1) := by decide +kernel
theorem d_FR_record_42 : decode b_FR_record 42 = .ok (.aload_n 0, 1) := by decide +kernel
theorem d_FR_record_43 : decode b_FR_record 43 = .ok (.getfield 25, 3) := by decide +kernel
theorem d_FR_record_46 : decode b_FR_record 46 = .ok (.getfield 113, 3) := by decide +kernel
theorem d_FR_record_49 : decode b_FR_record 49 = .ok (.invokestatic 116, 3) := by decide +kernel
theorem d_FR_record_52 : decode b_FR_record 52 = .ok (.lstore 5, 2) := by decide +kernel
theorem d_FR_record_54 : decode b_FR_record 54 = .ok (.lload_n 3, 1) := by decide +kernel
theorem d_FR_record_55 : decode b_FR_record 55 = .ok (.lload 5, 2) := by decide +kernel
theorem d_FR_record_57 : decode b_FR_record 57 = .ok (.aload_n 0, 1) := by decide +kernel
theorem d_FR_record_58 : decode b_FR_record 58 = .ok (.getfield 25, 3) := by decide +kernel
theorem d_FR_record_61 : decode b_FR_record 61 = .ok (.getfield 113, 3) := by decide +kernel
theorem d_FR_record_64 : decode b_FR_record 64 = .ok (.lmul, 1) := by decide +kernel
theorem d_FR_record_65 : decode b_FR_record 65 = .ok (.lsub, 1) := by decide +kernel
theorem d_FR_record_66 : decode b_FR_record 66 = .ok (.aload_n 0, 1) := by decide +kernel
theorem d_FR_record_67 : decode b_FR_record 67 = .ok (.getfield 25, 3) := by decide +kernel
theorem d_FR_record_70 : decode b_FR_record 70 = .ok (.getfield 120, 3) := by decide +kernel
theorem d_FR_record_73 : decode b_FR_record 73 = .ok (.lmul, 1) := by decide +kernel
theorem d_FR_record_74 : decode b_FR_record 74 = .ok (.lstore 7, 2) := by decide +kernel
theorem d_FR_record_76 : decode b_FR_record 76 = .ok (.lload 7, 2) := by decide +kernel
theorem d_FR_record_78 : decode b_FR_record 78 = .ok (.aload_n 0, 1) := by decide +kernel
theorem d_FR_record_79 : decode b_FR_record 79 = .ok (.getfield 25, 3) := by decide +kernel
theorem d_FR_record_82 : decode b_FR_record 82 = .ok (.getfield 123, 3) := by decide +kernel
theorem d_FR_record_85 : decode b_FR_record 85 = .ok (.invokestatic 116, 3) := by decide +kernel
theorem d_FR_record_88 : decode b_FR_record 88 = .ok (.lstore 9, 2) := by decide +kernel
theorem d_FR_record_90 : decode b_FR_record 90 = .ok (.iload_n 2, 1) := by decide +kernel
theorem d_FR_record_91 : decode b_FR_record 91 = .ok (.ifCond .eq 19, 3) := by decide +kernel
theorem d_FR_record_94 : decode b_FR_record 94 = .ok (.lload 7, 2) := by decide +kernel
theorem d_FR_record_96 : decode b_FR_record 96 = .ok (.lload 9, 2) := by decide +kernel
theorem d_FR_record_98 : decode b_FR_record 98 = .ok (.aload_n 0, 1) := by decide +kernel
theorem d_FR_record_99 : decode b_FR_record 99 = .ok (.getfield 25, 3) := by decide +kernel
theorem d_FR_record_102 : decode b_FR_record 102 = .ok (.getfield 123, 3) := by decide +kernel
theorem d_FR_record_105 : decode b_FR_record 105 = .ok (.lmul, 1) := by decide +kernel
theorem d_FR_record_106 : decode b_FR_record 106 = .ok (.lsub, 1) := by decide +kernel
theorem d_FR_record_107 : decode b_FR_record 107 = .ok (.goto 15, 3) := by decide +kernel
theorem d_FR_record_110 : decode b_FR_record 110 = .ok (.aload_n 0, 1) := by decide +kernel
theorem d_FR_record_111 : decode b_FR_record 111 = .ok (.getfield 25, 3) := by decide +kernel
theorem d_FR_record_114 : decode b_FR_record 114 = .ok (.lload 5, 2) := by decide +kernel
theorem d_FR_record_116 : decode b_FR_record 116 = .ok (.invokevirtual 101, 3) := by decide +kernel
theorem d_FR_record_119 : decode b_FR_record 119 = .ok (.lload 9, 2) := by decide +kernel
theorem d_FR_record_121 : decode b_FR_record 121 = .ok (.ladd, 1) := by decide +kernel
theorem d_FR_record_122 : decode b_FR_record 122 = .ok (.l2i, 1) := by decide +kernel
theorem d_FR_record_123 : decode b_FR_record 123 = .ok (.ireturn, 1) := by decide +kernel
