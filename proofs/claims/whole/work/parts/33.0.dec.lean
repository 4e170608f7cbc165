theorem d_Law_law_0 : decode code 0 = .ok (.new 7, 3) := by decide +kernel
theorem d_Law_law_3 : decode code 3 = .ok (.dup, 1) := by decide +kernel
theorem d_Law_law_4 : decode code 4 = .ok (.invokespecial 9, 3) := by decide +kernel
theorem d_Law_law_7 : decode code 7 = .ok (.astore_n 1, 1) := by decide +kernel
theorem d_Law_law_8 : decode code 8 = .ok (.new 10, 3) := by decide +kernel
theorem d_Law_law_11 : decode code 11 = .ok (.dup, 1) := by decide +kernel
theorem d_Law_law_12 : decode code 12 = .ok (.invokespecial 12, 3) := by decide +kernel
theorem d_Law_law_15 : decode code 15 = .ok (.astore_n 2, 1) := by decide +kernel
theorem d_Law_law_16 : decode code 16 = .ok (.iconst 0, 1) := by decide +kernel
theorem d_Law_law_17 : decode code 17 = .ok (.istore_n 3, 1) := by decide +kernel
theorem d_Law_law_18 : decode code 18 = .ok (.iload_n 3, 1) := by decide +kernel
theorem d_Law_law_19 : decode code 19 = .ok (.aload_n 0, 1) := by decide +kernel
theorem d_Law_law_20 : decode code 20 = .ok (.arraylength, 1) := by decide +kernel
theorem d_Law_law_21 : decode code 21 = .ok (.bipush 6, 2) := by decide +kernel
theorem d_Law_law_23 : decode code 23 = .ok (.isub, 1) := by decide +kernel
theorem d_Law_law_24 : decode code 24 = .ok (.if_icmp .gt 427, 3) := by decide +kernel
theorem d_Law_law_27 : decode code 27 = .ok (.aload_n 0, 1) := by decide +kernel
theorem d_Law_law_28 : decode code 28 = .ok (.iload_n 3, 1) := by decide +kernel
theorem d_Law_law_29 : decode code 29 = .ok (.iaload, 1) := by decide +kernel
theorem d_Law_law_30 : decode code 30 = .ok (.bipush 15, 2) := by decide +kernel
theorem d_Law_law_32 : decode code 32 = .ok (.iand, 1) := by decide +kernel
theorem d_Law_law_33 : decode code 33 = .ok (.tableswitch 412 0 9 #[55, 118, 161, 214, 258, 281, 304, 317, 330, 363], 55) := by decide +kernel
theorem d_Law_law_88 : decode code 88 = .ok (.aload_n 1, 1) := by decide +kernel
theorem d_Law_law_89 : decode code 89 = .ok (.aload_n 0, 1) := by decide +kernel
theorem d_Law_law_90 : decode code 90 = .ok (.iload_n 3, 1) := by decide +kernel
theorem d_Law_law_91 : decode code 91 = .ok (.iconst 1, 1) := by decide +kernel
theorem d_Law_law_92 : decode code 92 = .ok (.iadd, 1) := by decide +kernel
theorem d_Law_law_93 : decode code 93 = .ok (.iaload, 1) := by decide +kernel
theorem d_Law_law_94 : decode code 94 = .ok (.aload_n 0, 1) := by decide +kernel
theorem d_Law_law_95 : decode code 95 = .ok (.iload_n 3, 1) := by decide +kernel
theorem d_Law_law_96 : decode code 96 = .ok (.iconst 2, 1) := by decide +kernel
theorem d_Law_law_97 : decode code 97 = .ok (.iadd, 1) := by decide +kernel
theorem d_Law_law_98 : decode code 98 = .ok (.iaload, 1) := by decide +kernel
theorem d_Law_law_99 : decode code 99 = .ok (.aload_n 0, 1) := by decide +kernel
theorem d_Law_law_100 : decode code 100 = .ok (.iload_n 3, 1) := by decide +kernel
theorem d_Law_law_101 : decode code 101 = .ok (.iconst 3, 1) := by decide +kernel
theorem d_Law_law_102 : decode code 102 = .ok (.iadd, 1) := by decide +kernel
theorem d_Law_law_103 : decode code 103 = .ok (.iaload, 1) := by decide +kernel
theorem d_Law_law_104 : decode code 104 = .ok (.aload_n 0, 1) := by decide +kernel
theorem d_Law_law_105 : decode code 105 = .ok (.iload_n 3, 1) := by decide +kernel
theorem d_Law_law_106 : decode code 106 = .ok (.iconst 4, 1) := by decide +kernel
theorem d_Law_law_107 : decode code 107 = .ok (.iadd, 1) := by decide +kernel
theorem d_Law_law_108 : decode code 108 = .ok (.iaload, 1) := by decide +kernel
theorem d_Law_law_109 : decode code 109 = .ok (.aload_n 0, 1) := by decide +kernel
theorem d_Law_law_110 : decode code 110 = .ok (.iload_n 3, 1) := by decide +kernel
theorem d_Law_law_111 : decode code 111 = .ok (.iconst 5, 1) := by decide +kernel
theorem d_Law_law_112 : decode code 112 = .ok (.iadd, 1) := by decide +kernel
theorem d_Law_law_113 : decode code 113 = .ok (.iaload, 1) := by decide +kernel
theorem d_Law_law_114 : decode code 114 = .ok (.invokevirtual 13, 3) := by decide +kernel
theorem d_Law_law_117 : decode code 117 = .ok (.aload_n 2, 1) := by decide +kernel
theorem d_Law_law_118 : decode code 118 = .ok (.aload_n 0, 1) := by decide +kernel
theorem d_Law_law_119 : decode code 119 = .ok (.iload_n 3, 1) := by decide +kernel
theorem d_Law_law_120 : decode code 120 = .ok (.iconst 1, 1) := by decide +kernel
theorem d_Law_law_121 : decode code 121 = .ok (.iadd, 1) := by decide +kernel
theorem d_Law_law_122 : decode code 122 = .ok (.iaload, 1) := by decide +kernel
theorem d_Law_law_123 : decode code 123 = .ok (.aload_n 0, 1) := by decide +kernel
theorem d_Law_law_124 : decode code 124 = .ok (.iload_n 3, 1) := by decide +kernel
theorem d_Law_law_125 : decode code 125 = .ok (.iconst 2, 1) := by decide +kernel
theorem d_Law_law_126 : decode code 126 = .ok (.iadd, 1) := by decide +kernel
theorem d_Law_law_127 : decode code 127 = .ok (.iaload, 1) := by decide +kernel
theorem d_Law_law_128 : decode code 128 = .ok (.aload_n 0, 1) := by decide +kernel
theorem d_Law_law_129 : decode code 129 = .ok (.iload_n 3, 1) := by decide +kernel
theorem d_Law_law_130 : decode code 130 = .ok (.iconst 3, 1) := by decide +kernel
theorem d_Law_law_131 : decode code 131 = .ok (.iadd, 1) := by decide +kernel
theorem d_Law_law_132 : decode code 132 = .ok (.iaload, 1) := by decide +kernel
theorem d_Law_law_133 : decode code 133 = .ok (.aload_n 0, 1) := by decide +kernel
theorem d_Law_law_134 : decode code 134 = .ok (.iload_n 3, 1) := by decide +kernel
theorem d_Law_law_135 : decode code 135 = .ok (.iconst 4, 1) := by decide +kernel
theorem d_Law_law_136 : decode code 136 = .ok (.iadd, 1) := by decide +kernel
theorem d_Law_law_137 : decode code 137 = .ok (.iaload, 1) := by decide +kernel
theorem d_Law_law_138 : decode code 138 = .ok (.aload_n 0, 1) := by decide +kernel
theorem d_Law_law_139 : decode code 139 = .ok (.iload_n 3, 1) := by decide +kernel
theorem d_Law_law_140 : decode code 140 = .ok (.iconst 5, 1) := by decide +kernel
theorem d_Law_law_141 : decode code 141 = .ok (.iadd, 1) := by decide +kernel
theorem d_Law_law_142 : decode code 142 = .ok (.iaload, 1) := by decide +kernel
theorem d_Law_law_143 : decode code 143 = .ok (.invokevirtual 17, 3) := by decide +kernel
theorem d_Law_law_146 : decode code 146 = .ok (.if_icmp .eq 299, 3) := by decide +kernel
theorem d_Law_law_149 : decode code 149 = .ok (.iconst 0, 1) := by decide +kernel
theorem d_Law_law_150 : decode code 150 = .ok (.ireturn, 1) := by decide +kernel
theorem d_Law_law_151 : decode code 151 = .ok (.aload_n 1, 1) := by decide +kernel
theorem d_Law_law_152 : decode code 152 = .ok (.aload_n 0, 1) := by decide +kernel
theorem d_Law_law_153 : decode code 153 = .ok (.iload_n 3, 1) := by decide +kernel
theorem d_Law_law_154 : decode code 154 = .ok (.iconst 1, 1) := by decide +kernel
theorem d_Law_law_155 : decode code 155 = .ok (.iadd, 1) := by decide +kernel
theorem d_Law_law_156 : decode code 156 = .ok (.iaload, 1) := by decide +kernel
theorem d_Law_law_157 : decode code 157 = .ok (.aload_n 0, 1) := by decide +kernel
theorem d_Law_law_158 : decode code 158 = .ok (.iload_n 3, 1) := by decide +kernel
theorem d_Law_law_159 : decode code 159 = .ok (.iconst 2, 1) := by decide +kernel
theorem d_Law_law_160 : decode code 160 = .ok (.iadd, 1) := by decide +kernel
theorem d_Law_law_161 : decode code 161 = .ok (.iaload, 1) := by decide +kernel
theorem d_Law_law_162 : decode code 162 = .ok (.aload_n 0, 1) := by decide +kernel
theorem d_Law_law_163 : decode code 163 = .ok (.iload_n 3, 1) := by decide +kernel
theorem d_Law_law_164 : decode code 164 = .ok (.iconst 3, 1) := by decide +kernel
theorem d_Law_law_165 : decode code 165 = .ok (.iadd, 1) := by decide +kernel
theorem d_Law_law_166 : decode code 166 = .ok (.iaload, 1) := by decide +kernel
theorem d_Law_law_167 : decode code 167 = .ok (.invokevirtual 18, 3) := by decide +kernel
theorem d_Law_law_170 : decode code 170 = .ok (.aload_n 2, 1) := by decide +kernel
theorem d_Law_law_171 : decode code 171 = .ok (.aload_n 0, 1) := by decide +kernel
theorem d_Law_law_172 : decode code 172 = .ok (.iload_n 3, 1) := by decide +kernel
theorem d_Law_law_173 : decode code 173 = .ok (.iconst 1, 1) := by decide +kernel
theorem d_Law_law_174 : decode code 174 = .ok (.iadd, 1) := by decide +kernel
theorem d_Law_law_175 : decode code 175 = .ok (.iaload, 1) := by decide +kernel
theorem d_Law_law_176 : decode code 176 = .ok (.aload_n 0, 1) := by decide +kernel
theorem d_Law_law_177 : decode code 177 = .ok (.iload_n 3, 1) := by decide +kernel
theorem d_Law_law_178 : decode code 178 = .ok (.iconst 2, 1) := by decide +kernel
