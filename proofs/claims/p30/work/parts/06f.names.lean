theorem dL_labels_115 : decode cL_labels 115 = .ok (.if_icmp .gt 25, 3) := by decide +kernel
theorem dL_labels_118 : decode cL_labels 118 = .ok (.iload 4, 2) := by decide +kernel
theorem dL_labels_120 : decode cL_labels 120 = .ok (.iconst 1, 1) := by decide +kernel
theorem dL_labels_121 : decode cL_labels 121 = .ok (.isub, 1) := by decide +kernel
theorem dL_labels_122 : decode cL_labels 122 = .ok (.iload 4, 2) := by decide +kernel
theorem dL_labels_124 : decode cL_labels 124 = .ok (.imul, 1) := by decide +kernel
theorem dL_labels_125 : decode cL_labels 125 = .ok (.iconst 2, 1) := by decide +kernel
theorem dL_labels_126 : decode cL_labels 126 = .ok (.idiv, 1) := by decide +kernel
theorem dL_labels_127 : decode cL_labels 127 = .ok (.aload_n 0, 1) := by decide +kernel
theorem dL_labels_128 : decode cL_labels 128 = .ok (.iload_n 1, 1) := by decide +kernel
theorem dL_labels_129 : decode cL_labels 129 = .ok (.iconst 3, 1) := by decide +kernel
theorem dL_labels_130 : decode cL_labels 130 = .ok (.invokestatic 116, 3) := by decide +kernel
theorem dL_labels_133 : decode cL_labels 133 = .ok (.if_icmp .gt 7, 3) := by decide +kernel
theorem dL_labels_136 : decode cL_labels 136 = .ok (.iconst 1, 1) := by decide +kernel
theorem dL_labels_137 : decode cL_labels 137 = .ok (.goto 4, 3) := by decide +kernel
theorem dL_labels_140 : decode cL_labels 140 = .ok (.iconst 0, 1) := by decide +kernel
theorem dL_labels_141 : decode cL_labels 141 = .ok (.istore 6, 2) := by decide +kernel
theorem dL_labels_143 : decode cL_labels 143 = .ok (.iconst 0, 1) := by decide +kernel
theorem dL_labels_144 : decode cL_labels 144 = .ok (.istore 7, 2) := by decide +kernel
theorem dL_labels_146 : decode cL_labels 146 = .ok (.iload 7, 2) := by decide +kernel
theorem dL_labels_148 : decode cL_labels 148 = .ok (.bipush 8, 2) := by decide +kernel
theorem dL_labels_150 : decode cL_labels 150 = .ok (.if_icmp .ge 108, 3) := by decide +kernel
theorem dL_labels_153 : decode cL_labels 153 = .ok (.iload 6, 2) := by decide +kernel
theorem dL_labels_155 : decode cL_labels 155 = .ok (.ifCond .eq 103, 3) := by decide +kernel
theorem dL_labels_158 : decode cL_labels 158 = .ok (.iconst 0, 1) := by decide +kernel
theorem dL_labels_159 : decode cL_labels 159 = .ok (.istore 8, 2) := by decide +kernel
theorem dL_labels_161 : decode cL_labels 161 = .ok (.iload 8, 2) := by decide +kernel
theorem dL_labels_163 : decode cL_labels 163 = .ok (.aload_n 0, 1) := by decide +kernel
theorem dL_labels_164 : decode cL_labels 164 = .ok (.iload 7, 2) := by decide +kernel
theorem dL_labels_166 : decode cL_labels 166 = .ok (.iconst 3, 1) := by decide +kernel
theorem dL_labels_167 : decode cL_labels 167 = .ok (.invokestatic 125, 3) := by decide +kernel
theorem dL_labels_170 : decode cL_labels 170 = .ok (.if_icmp .ge 82, 3) := by decide +kernel
theorem dL_labels_173 : decode cL_labels 173 = .ok (.iconst 0, 1) := by decide +kernel
theorem dL_labels_174 : decode cL_labels 174 = .ok (.istore 9, 2) := by decide +kernel
theorem dL_labels_176 : decode cL_labels 176 = .ok (.iconst 0, 1) := by decide +kernel
theorem dL_labels_177 : decode cL_labels 177 = .ok (.istore 10, 2) := by decide +kernel
theorem dL_labels_179 : decode cL_labels 179 = .ok (.iload 10, 2) := by decide +kernel
theorem dL_labels_181 : decode cL_labels 181 = .ok (.iload 7, 2) := by decide +kernel
theorem dL_labels_183 : decode cL_labels 183 = .ok (.if_icmp .ge 46, 3) := by decide +kernel
theorem dL_labels_186 : decode cL_labels 186 = .ok (.iload 9, 2) := by decide +kernel
theorem dL_labels_188 : decode cL_labels 188 = .ok (.ifCond .ne 28, 3) := by decide +kernel
theorem dL_labels_191 : decode cL_labels 191 = .ok (.aload_n 0, 1) := by decide +kernel
theorem dL_labels_192 : decode cL_labels 192 = .ok (.iload 10, 2) := by decide +kernel
theorem dL_labels_194 : decode cL_labels 194 = .ok (.iconst 3, 1) := by decide +kernel
theorem dL_labels_195 : decode cL_labels 195 = .ok (.invokestatic 125, 3) := by decide +kernel
theorem dL_labels_198 : decode cL_labels 198 = .ok (.iload 8, 2) := by decide +kernel
theorem dL_labels_200 : decode cL_labels 200 = .ok (.if_icmp .ne 20, 3) := by decide +kernel
theorem dL_labels_203 : decode cL_labels 203 = .ok (.aload_n 0, 1) := by decide +kernel
theorem dL_labels_204 : decode cL_labels 204 = .ok (.iload_n 1, 1) := by decide +kernel
theorem dL_labels_205 : decode cL_labels 205 = .ok (.iload 10, 2) := by decide +kernel
theorem dL_labels_207 : decode cL_labels 207 = .ok (.iload 7, 2) := by decide +kernel
theorem dL_labels_209 : decode cL_labels 209 = .ok (.invokestatic 118, 3) := by decide +kernel
theorem dL_labels_212 : decode cL_labels 212 = .ok (.iconst 1, 1) := by decide +kernel
theorem dL_labels_213 : decode cL_labels 213 = .ok (.if_icmp .ne 7, 3) := by decide +kernel
theorem dL_labels_216 : decode cL_labels 216 = .ok (.iconst 1, 1) := by decide +kernel
theorem dL_labels_217 : decode cL_labels 217 = .ok (.goto 4, 3) := by decide +kernel
theorem dL_labels_220 : decode cL_labels 220 = .ok (.iconst 0, 1) := by decide +kernel
theorem dL_labels_221 : decode cL_labels 221 = .ok (.istore 9, 2) := by decide +kernel
theorem dL_labels_223 : decode cL_labels 223 = .ok (.iinc 10 1, 3) := by decide +kernel
theorem dL_labels_226 : decode cL_labels 226 = .ok (.goto (-47), 3) := by decide +kernel
theorem dL_labels_229 : decode cL_labels 229 = .ok (.iload 6, 2) := by decide +kernel
theorem dL_labels_231 : decode cL_labels 231 = .ok (.ifCond .eq 12, 3) := by decide +kernel
theorem dL_labels_234 : decode cL_labels 234 = .ok (.iload 9, 2) := by decide +kernel
theorem dL_labels_236 : decode cL_labels 236 = .ok (.ifCond .eq 7, 3) := by decide +kernel
theorem dL_labels_239 : decode cL_labels 239 = .ok (.iconst 1, 1) := by decide +kernel
theorem dL_labels_240 : decode cL_labels 240 = .ok (.goto 4, 3) := by decide +kernel
theorem dL_labels_243 : decode cL_labels 243 = .ok (.iconst 0, 1) := by decide +kernel
theorem dL_labels_244 : decode cL_labels 244 = .ok (.istore 6, 2) := by decide +kernel
theorem dL_labels_246 : decode cL_labels 246 = .ok (.iinc 8 1, 3) := by decide +kernel
theorem dL_labels_249 : decode cL_labels 249 = .ok (.goto (-88), 3) := by decide +kernel
theorem dL_labels_252 : decode cL_labels 252 = .ok (.iinc 7 1, 3) := by decide +kernel
theorem dL_labels_255 : decode cL_labels 255 = .ok (.goto (-109), 3) := by decide +kernel
theorem dL_labels_258 : decode cL_labels 258 = .ok (.iload 6, 2) := by decide +kernel
theorem dL_labels_260 : decode cL_labels 260 = .ok (.ifCond .eq 23, 3) := by decide +kernel
theorem dL_labels_263 : decode cL_labels 263 = .ok (.aload_n 0, 1) := by decide +kernel
theorem dL_labels_264 : decode cL_labels 264 = .ok (.invokestatic 152, 3) := by decide +kernel
theorem dL_labels_267 : decode cL_labels 267 = .ok (.ifCond .lt 16, 3) := by decide +kernel
theorem dL_labels_270 : decode cL_labels 270 = .ok (.aload_n 0, 1) := by decide +kernel
theorem dL_labels_271 : decode cL_labels 271 = .ok (.invokestatic 146, 3) := by decide +kernel
theorem dL_labels_274 : decode cL_labels 274 = .ok (.lload_n 2, 1) := by decide +kernel
