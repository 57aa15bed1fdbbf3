theorem dL_corrects_63 : decode cL_corrects 63 = .ok (.aload_n 0, 1) := by decide +kernel
theorem dL_corrects_64 : decode cL_corrects 64 = .ok (.iload_n 1, 1) := by decide +kernel
theorem dL_corrects_65 : decode cL_corrects 65 = .ok (.iload_n 2, 1) := by decide +kernel
theorem dL_corrects_66 : decode cL_corrects 66 = .ok (.iload_n 3, 1) := by decide +kernel
theorem dL_corrects_67 : decode cL_corrects 67 = .ok (.invokestatic 154, 3) := by decide +kernel
theorem dL_corrects_70 : decode cL_corrects 70 = .ok (.istore 10, 2) := by decide +kernel
theorem dL_corrects_72 : decode cL_corrects 72 = .ok (.aload_n 0, 1) := by decide +kernel
theorem dL_corrects_73 : decode cL_corrects 73 = .ok (.iload_n 2, 1) := by decide +kernel
theorem dL_corrects_74 : decode cL_corrects 74 = .ok (.iload_n 3, 1) := by decide +kernel
theorem dL_corrects_75 : decode cL_corrects 75 = .ok (.invokestatic 98, 3) := by decide +kernel
theorem dL_corrects_78 : decode cL_corrects 78 = .ok (.istore 11, 2) := by decide +kernel
theorem dL_corrects_80 : decode cL_corrects 80 = .ok (.aload_n 0, 1) := by decide +kernel
theorem dL_corrects_81 : decode cL_corrects 81 = .ok (.iconst 5, 1) := by decide +kernel
theorem dL_corrects_82 : decode cL_corrects 82 = .ok (.invokestatic 127, 3) := by decide +kernel
theorem dL_corrects_85 : decode cL_corrects 85 = .ok (.istore 12, 2) := by decide +kernel
theorem dL_corrects_87 : decode cL_corrects 87 = .ok (.iload 10, 2) := by decide +kernel
theorem dL_corrects_89 : decode cL_corrects 89 = .ok (.ifCond .ne 7, 3) := by decide +kernel
theorem dL_corrects_92 : decode cL_corrects 92 = .ok (.iconst 1, 1) := by decide +kernel
theorem dL_corrects_93 : decode cL_corrects 93 = .ok (.goto 4, 3) := by decide +kernel
theorem dL_corrects_96 : decode cL_corrects 96 = .ok (.iconst 0, 1) := by decide +kernel
theorem dL_corrects_97 : decode cL_corrects 97 = .ok (.aload_n 0, 1) := by decide +kernel
theorem dL_corrects_98 : decode cL_corrects 98 = .ok (.iload 11, 2) := by decide +kernel
theorem dL_corrects_100 : decode cL_corrects 100 = .ok (.iconst 2, 1) := by decide +kernel
theorem dL_corrects_101 : decode cL_corrects 101 = .ok (.invokestatic 129, 3) := by decide +kernel
theorem dL_corrects_104 : decode cL_corrects 104 = .ok (.iload_n 1, 1) := by decide +kernel
theorem dL_corrects_105 : decode cL_corrects 105 = .ok (.ishr, 1) := by decide +kernel
theorem dL_corrects_106 : decode cL_corrects 106 = .ok (.iconst 1, 1) := by decide +kernel
theorem dL_corrects_107 : decode cL_corrects 107 = .ok (.iand, 1) := by decide +kernel
theorem dL_corrects_108 : decode cL_corrects 108 = .ok (.iconst 1, 1) := by decide +kernel
theorem dL_corrects_109 : decode cL_corrects 109 = .ok (.if_icmp .ne 7, 3) := by decide +kernel
theorem dL_corrects_112 : decode cL_corrects 112 = .ok (.iconst 1, 1) := by decide +kernel
theorem dL_corrects_113 : decode cL_corrects 113 = .ok (.goto 4, 3) := by decide +kernel
theorem dL_corrects_116 : decode cL_corrects 116 = .ok (.iconst 0, 1) := by decide +kernel
theorem dL_corrects_117 : decode cL_corrects 117 = .ok (.if_icmp .ne 40, 3) := by decide +kernel
theorem dL_corrects_120 : decode cL_corrects 120 = .ok (.aload_n 0, 1) := by decide +kernel
theorem dL_corrects_121 : decode cL_corrects 121 = .ok (.iload 11, 2) := by decide +kernel
theorem dL_corrects_123 : decode cL_corrects 123 = .ok (.iload_n 1, 1) := by decide +kernel
theorem dL_corrects_124 : decode cL_corrects 124 = .ok (.invokestatic 103, 3) := by decide +kernel
theorem dL_corrects_127 : decode cL_corrects 127 = .ok (.iload 10, 2) := by decide +kernel
theorem dL_corrects_129 : decode cL_corrects 129 = .ok (.if_icmp .ne 28, 3) := by decide +kernel
theorem dL_corrects_132 : decode cL_corrects 132 = .ok (.aload_n 0, 1) := by decide +kernel
theorem dL_corrects_133 : decode cL_corrects 133 = .ok (.iconst 5, 1) := by decide +kernel
theorem dL_corrects_134 : decode cL_corrects 134 = .ok (.invokestatic 127, 3) := by decide +kernel
theorem dL_corrects_137 : decode cL_corrects 137 = .ok (.iload 12, 2) := by decide +kernel
theorem dL_corrects_139 : decode cL_corrects 139 = .ok (.iload 10, 2) := by decide +kernel
theorem dL_corrects_141 : decode cL_corrects 141 = .ok (.ifCond .le 7, 3) := by decide +kernel
theorem dL_corrects_144 : decode cL_corrects 144 = .ok (.iconst 1, 1) := by decide +kernel
theorem dL_corrects_145 : decode cL_corrects 145 = .ok (.goto 4, 3) := by decide +kernel
theorem dL_corrects_148 : decode cL_corrects 148 = .ok (.iconst 0, 1) := by decide +kernel
theorem dL_corrects_149 : decode cL_corrects 149 = .ok (.iadd, 1) := by decide +kernel
theorem dL_corrects_150 : decode cL_corrects 150 = .ok (.if_icmp .ne 7, 3) := by decide +kernel
theorem dL_corrects_153 : decode cL_corrects 153 = .ok (.iconst 1, 1) := by decide +kernel
theorem dL_corrects_154 : decode cL_corrects 154 = .ok (.goto 4, 3) := by decide +kernel
theorem dL_corrects_157 : decode cL_corrects 157 = .ok (.iconst 0, 1) := by decide +kernel
theorem dL_corrects_158 : decode cL_corrects 158 = .ok (.istore 13, 2) := by decide +kernel
theorem dL_corrects_160 : decode cL_corrects 160 = .ok (.bipush 100, 2) := by decide +kernel
theorem dL_corrects_162 : decode cL_corrects 162 = .ok (.iload 7, 2) := by decide +kernel
theorem dL_corrects_164 : decode cL_corrects 164 = .ok (.imul, 1) := by decide +kernel
theorem dL_corrects_165 : decode cL_corrects 165 = .ok (.bipush 10, 2) := by decide +kernel
theorem dL_corrects_167 : decode cL_corrects 167 = .ok (.iload 8, 2) := by decide +kernel
theorem dL_corrects_169 : decode cL_corrects 169 = .ok (.imul, 1) := by decide +kernel
theorem dL_corrects_170 : decode cL_corrects 170 = .ok (.iadd, 1) := by decide +kernel
theorem dL_corrects_171 : decode cL_corrects 171 = .ok (.iload 9, 2) := by decide +kernel
theorem dL_corrects_173 : decode cL_corrects 173 = .ok (.iadd, 1) := by decide +kernel
theorem dL_corrects_174 : decode cL_corrects 174 = .ok (.bipush 100, 2) := by decide +kernel
theorem dL_corrects_176 : decode cL_corrects 176 = .ok (.aload_n 0, 1) := by decide +kernel
theorem dL_corrects_177 : decode cL_corrects 177 = .ok (.iload_n 2, 1) := by decide +kernel
theorem dL_corrects_178 : decode cL_corrects 178 = .ok (.iconst 0, 1) := by decide +kernel
theorem dL_corrects_179 : decode cL_corrects 179 = .ok (.invokestatic 125, 3) := by decide +kernel
theorem dL_corrects_182 : decode cL_corrects 182 = .ok (.imul, 1) := by decide +kernel
theorem dL_corrects_183 : decode cL_corrects 183 = .ok (.bipush 10, 2) := by decide +kernel
theorem dL_corrects_185 : decode cL_corrects 185 = .ok (.aload_n 0, 1) := by decide +kernel
theorem dL_corrects_186 : decode cL_corrects 186 = .ok (.iload_n 2, 1) := by decide +kernel
theorem dL_corrects_187 : decode cL_corrects 187 = .ok (.iconst 1, 1) := by decide +kernel
theorem dL_corrects_188 : decode cL_corrects 188 = .ok (.invokestatic 125, 3) := by decide +kernel
theorem dL_corrects_191 : decode cL_corrects 191 = .ok (.imul, 1) := by decide +kernel
theorem dL_corrects_192 : decode cL_corrects 192 = .ok (.iadd, 1) := by decide +kernel
theorem dL_corrects_193 : decode cL_corrects 193 = .ok (.aload_n 0, 1) := by decide +kernel
theorem dL_corrects_194 : decode cL_corrects 194 = .ok (.iload_n 2, 1) := by decide +kernel
theorem dL_corrects_195 : decode cL_corrects 195 = .ok (.iconst 2, 1) := by decide +kernel
