theorem dX12_zone_103 : decode cX12_zone 103 = .ok (.iconst 1, 1) := by decide +kernel
theorem dX12_zone_104 : decode cX12_zone 104 = .ok (.invokevirtual 225, 3) := by decide +kernel
theorem dX12_zone_107 : decode cX12_zone 107 = .ok (.ifCond .eq 5, 3) := by decide +kernel
theorem dX12_zone_110 : decode cX12_zone 110 = .ok (.iconst 0, 1) := by decide +kernel
theorem dX12_zone_111 : decode cX12_zone 111 = .ok (.ireturn, 1) := by decide +kernel
theorem dX12_zone_112 : decode cX12_zone 112 = .ok (.aload_n 0, 1) := by decide +kernel
theorem dX12_zone_113 : decode cX12_zone 113 = .ok (.getfield 482, 3) := by decide +kernel
theorem dX12_zone_116 : decode cX12_zone 116 = .ok (.bipush 10, 2) := by decide +kernel
theorem dX12_zone_118 : decode cX12_zone 118 = .ok (.if_icmp .ne 5, 3) := by decide +kernel
theorem dX12_zone_123 : decode cX12_zone 123 = .ok (.aload_n 0, 1) := by decide +kernel
theorem dX12_zone_124 : decode cX12_zone 124 = .ok (.getfield 170, 3) := by decide +kernel
theorem dX12_zone_127 : decode cX12_zone 127 = .ok (.aload_n 0, 1) := by decide +kernel
theorem dX12_zone_128 : decode cX12_zone 128 = .ok (.getfield 482, 3) := by decide +kernel
theorem dX12_zone_131 : decode cX12_zone 131 = .ok (.iload_n 1, 1) := by decide +kernel
theorem dX12_zone_132 : decode cX12_zone 132 = .ok (.bipush 24, 2) := by decide +kernel
theorem dX12_zone_134 : decode cX12_zone 134 = .ok (.irem, 1) := by decide +kernel
theorem dX12_zone_135 : decode cX12_zone 135 = .ok (.iload_n 2, 1) := by decide +kernel
theorem dX12_zone_136 : decode cX12_zone 136 = .ok (.bipush 24, 2) := by decide +kernel
theorem dX12_zone_138 : decode cX12_zone 138 = .ok (.irem, 1) := by decide +kernel
theorem dX12_zone_139 : decode cX12_zone 139 = .ok (.invokestatic 511, 3) := by decide +kernel
theorem dX12_zone_142 : decode cX12_zone 142 = .ok (.iastore, 1) := by decide +kernel
theorem dX12_zone_143 : decode cX12_zone 143 = .ok (.aload_n 0, 1) := by decide +kernel
theorem dX12_zone_144 : decode cX12_zone 144 = .ok (.getfield 173, 3) := by decide +kernel
theorem dX12_zone_147 : decode cX12_zone 147 = .ok (.aload_n 0, 1) := by decide +kernel
theorem dX12_zone_148 : decode cX12_zone 148 = .ok (.getfield 482, 3) := by decide +kernel
theorem dX12_zone_151 : decode cX12_zone 151 = .ok (.iload_n 1, 1) := by decide +kernel
theorem dX12_zone_152 : decode cX12_zone 152 = .ok (.bipush 24, 2) := by decide +kernel
theorem dX12_zone_154 : decode cX12_zone 154 = .ok (.irem, 1) := by decide +kernel
theorem dX12_zone_155 : decode cX12_zone 155 = .ok (.iload_n 2, 1) := by decide +kernel
theorem dX12_zone_156 : decode cX12_zone 156 = .ok (.bipush 24, 2) := by decide +kernel
theorem dX12_zone_158 : decode cX12_zone 158 = .ok (.irem, 1) := by decide +kernel
theorem dX12_zone_159 : decode cX12_zone 159 = .ok (.iadd, 1) := by decide +kernel
theorem dX12_zone_160 : decode cX12_zone 160 = .ok (.aload_n 0, 1) := by decide +kernel
theorem dX12_zone_161 : decode cX12_zone 161 = .ok (.getfield 170, 3) := by decide +kernel
theorem dX12_zone_164 : decode cX12_zone 164 = .ok (.aload_n 0, 1) := by decide +kernel
theorem dX12_zone_165 : decode cX12_zone 165 = .ok (.getfield 482, 3) := by decide +kernel
theorem dX12_zone_168 : decode cX12_zone 168 = .ok (.iaload, 1) := by decide +kernel
theorem dX12_zone_169 : decode cX12_zone 169 = .ok (.isub, 1) := by decide +kernel
theorem dX12_zone_170 : decode cX12_zone 170 = .ok (.iastore, 1) := by decide +kernel
theorem dX12_zone_171 : decode cX12_zone 171 = .ok (.aload_n 0, 1) := by decide +kernel
theorem dX12_zone_172 : decode cX12_zone 172 = .ok (.getfield 176, 3) := by decide +kernel
theorem dX12_zone_175 : decode cX12_zone 175 = .ok (.aload_n 0, 1) := by decide +kernel
theorem dX12_zone_176 : decode cX12_zone 176 = .ok (.getfield 482, 3) := by decide +kernel
theorem dX12_zone_179 : decode cX12_zone 179 = .ok (.iload_n 1, 1) := by decide +kernel
theorem dX12_zone_180 : decode cX12_zone 180 = .ok (.bipush 24, 2) := by decide +kernel
theorem dX12_zone_182 : decode cX12_zone 182 = .ok (.idiv, 1) := by decide +kernel
theorem dX12_zone_183 : decode cX12_zone 183 = .ok (.iload_n 2, 1) := by decide +kernel
theorem dX12_zone_184 : decode cX12_zone 184 = .ok (.bipush 24, 2) := by decide +kernel
theorem dX12_zone_186 : decode cX12_zone 186 = .ok (.idiv, 1) := by decide +kernel
theorem dX12_zone_187 : decode cX12_zone 187 = .ok (.invokestatic 511, 3) := by decide +kernel
theorem dX12_zone_190 : decode cX12_zone 190 = .ok (.iastore, 1) := by decide +kernel
theorem dX12_zone_191 : decode cX12_zone 191 = .ok (.aload_n 0, 1) := by decide +kernel
theorem dX12_zone_192 : decode cX12_zone 192 = .ok (.getfield 179, 3) := by decide +kernel
theorem dX12_zone_195 : decode cX12_zone 195 = .ok (.aload_n 0, 1) := by decide +kernel
theorem dX12_zone_196 : decode cX12_zone 196 = .ok (.getfield 482, 3) := by decide +kernel
theorem dX12_zone_199 : decode cX12_zone 199 = .ok (.iload_n 1, 1) := by decide +kernel
theorem dX12_zone_200 : decode cX12_zone 200 = .ok (.bipush 24, 2) := by decide +kernel
theorem dX12_zone_202 : decode cX12_zone 202 = .ok (.idiv, 1) := by decide +kernel
theorem dX12_zone_203 : decode cX12_zone 203 = .ok (.iload_n 2, 1) := by decide +kernel
theorem dX12_zone_204 : decode cX12_zone 204 = .ok (.bipush 24, 2) := by decide +kernel
theorem dX12_zone_206 : decode cX12_zone 206 = .ok (.idiv, 1) := by decide +kernel
theorem dX12_zone_207 : decode cX12_zone 207 = .ok (.iadd, 1) := by decide +kernel
theorem dX12_zone_208 : decode cX12_zone 208 = .ok (.aload_n 0, 1) := by decide +kernel
theorem dX12_zone_209 : decode cX12_zone 209 = .ok (.getfield 176, 3) := by decide +kernel
theorem dX12_zone_212 : decode cX12_zone 212 = .ok (.aload_n 0, 1) := by decide +kernel
theorem dX12_zone_213 : decode cX12_zone 213 = .ok (.getfield 482, 3) := by decide +kernel
theorem dX12_zone_216 : decode cX12_zone 216 = .ok (.iaload, 1) := by decide +kernel
theorem dX12_zone_217 : decode cX12_zone 217 = .ok (.isub, 1) := by decide +kernel
theorem dX12_zone_218 : decode cX12_zone 218 = .ok (.iastore, 1) := by decide +kernel
theorem dX12_zone_219 : decode cX12_zone 219 = .ok (.aload_n 0, 1) := by decide +kernel
theorem dX12_zone_220 : decode cX12_zone 220 = .ok (.getfield 182, 3) := by decide +kernel
theorem dX12_zone_223 : decode cX12_zone 223 = .ok (.aload_n 0, 1) := by decide +kernel
theorem dX12_zone_224 : decode cX12_zone 224 = .ok (.getfield 482, 3) := by decide +kernel
theorem dX12_zone_227 : decode cX12_zone 227 = .ok (.iload_n 3, 1) := by decide +kernel
theorem dX12_zone_228 : decode cX12_zone 228 = .ok (.iastore, 1) := by decide +kernel
theorem dX12_zone_229 : decode cX12_zone 229 = .ok (.aload_n 0, 1) := by decide +kernel
theorem dX12_zone_230 : decode cX12_zone 230 = .ok (.getfield 185, 3) := by decide +kernel
theorem dX12_zone_233 : decode cX12_zone 233 = .ok (.aload_n 0, 1) := by decide +kernel
theorem dX12_zone_234 : decode cX12_zone 234 = .ok (.getfield 482, 3) := by decide +kernel
theorem dX12_zone_237 : decode cX12_zone 237 = .ok (.iload 4, 2) := by decide +kernel
theorem dX12_zone_239 : decode cX12_zone 239 = .ok (.iastore, 1) := by decide +kernel
theorem dX12_zone_240 : decode cX12_zone 240 = .ok (.aload_n 0, 1) := by decide +kernel
theorem dX12_zone_241 : decode cX12_zone 241 = .ok (.getfield 188, 3) := by decide +kernel
theorem dX12_zone_244 : decode cX12_zone 244 = .ok (.aload_n 0, 1) := by decide +kernel
theorem dX12_zone_245 : decode cX12_zone 245 = .ok (.getfield 482, 3) := by decide +kernel
theorem dX12_zone_248 : decode cX12_zone 248 = .ok (.iload 5, 2) := by decide +kernel
theorem dX12_zone_250 : decode cX12_zone 250 = .ok (.iastore, 1) := by decide +kernel
theorem dX12_zone_251 : decode cX12_zone 251 = .ok (.aload_n 0, 1) := by decide +kernel
theorem dX12_zone_252 : decode cX12_zone 252 = .ok (.getfield 191, 3) := by decide +kernel
theorem dX12_zone_255 : decode cX12_zone 255 = .ok (.aload_n 0, 1) := by decide +kernel
theorem dX12_zone_256 : decode cX12_zone 256 = .ok (.getfield 482, 3) := by decide +kernel
theorem dX12_zone_259 : decode cX12_zone 259 = .ok (.iload 6, 2) := by decide +kernel
theorem dX12_zone_261 : decode cX12_zone 261 = .ok (.iastore, 1) := by decide +kernel
theorem dX12_zone_262 : decode cX12_zone 262 = .ok (.aload_n 0, 1) := by decide +kernel
theorem dX12_zone_263 : decode cX12_zone 263 = .ok (.dup, 1) := by decide +kernel
theorem dX12_zone_264 : decode cX12_zone 264 = .ok (.getfield 482, 3) := by decide +kernel
theorem dX12_zone_267 : decode cX12_zone 267 = .ok (.iconst 1, 1) := by decide +kernel
theorem dX12_zone_268 : decode cX12_zone 268 = .ok (.iadd, 1) := by decide +kernel
theorem dX12_zone_269 : decode cX12_zone 269 = .ok (.putfield 482, 3) := by decide +kernel
theorem dX12_zone_272 : decode cX12_zone 272 = .ok (.aload_n 0, 1) := by decide +kernel
theorem dX12_zone_273 : decode cX12_zone 273 = .ok (.getfield 482, 3) := by decide +kernel
theorem dX12_zone_276 : decode cX12_zone 276 = .ok (.iconst 1, 1) := by decide +kernel
theorem dX12_zone_277 : decode cX12_zone 277 = .ok (.isub, 1) := by decide +kernel
theorem dX12_zone_278 : decode cX12_zone 278 = .ok (.ireturn, 1) := by decide +kernel
