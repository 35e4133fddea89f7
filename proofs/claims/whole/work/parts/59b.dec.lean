/-! the law: decoded -/
theorem d_Lw_law_152 : decode code 152 = .ok (.aload_n 2, 1) := by decide +kernel
theorem d_Lw_law_153 : decode code 153 = .ok (.invokevirtual 17, 3) := by decide +kernel
theorem d_Lw_law_156 : decode code 156 = .ok (.if_icmp .eq 1011, 3) := by decide +kernel
theorem d_Lw_law_159 : decode code 159 = .ok (.iconst 0, 1) := by decide +kernel
theorem d_Lw_law_160 : decode code 160 = .ok (.ireturn, 1) := by decide +kernel
theorem d_Lw_law_161 : decode code 161 = .ok (.aload_n 1, 1) := by decide +kernel
theorem d_Lw_law_162 : decode code 162 = .ok (.aload_n 0, 1) := by decide +kernel
theorem d_Lw_law_163 : decode code 163 = .ok (.iload_n 3, 1) := by decide +kernel
theorem d_Lw_law_164 : decode code 164 = .ok (.iconst 1, 1) := by decide +kernel
theorem d_Lw_law_165 : decode code 165 = .ok (.iadd, 1) := by decide +kernel
theorem d_Lw_law_166 : decode code 166 = .ok (.iaload, 1) := by decide +kernel
theorem d_Lw_law_167 : decode code 167 = .ok (.aload_n 0, 1) := by decide +kernel
theorem d_Lw_law_168 : decode code 168 = .ok (.iload_n 3, 1) := by decide +kernel
theorem d_Lw_law_169 : decode code 169 = .ok (.iconst 2, 1) := by decide +kernel
theorem d_Lw_law_170 : decode code 170 = .ok (.iadd, 1) := by decide +kernel
theorem d_Lw_law_171 : decode code 171 = .ok (.iaload, 1) := by decide +kernel
theorem d_Lw_law_172 : decode code 172 = .ok (.i2l, 1) := by decide +kernel
theorem d_Lw_law_173 : decode code 173 = .ok (.bipush 32, 2) := by decide +kernel
theorem d_Lw_law_175 : decode code 175 = .ok (.lshl, 1) := by decide +kernel
theorem d_Lw_law_176 : decode code 176 = .ok (.aload_n 0, 1) := by decide +kernel
theorem d_Lw_law_177 : decode code 177 = .ok (.iload_n 3, 1) := by decide +kernel
theorem d_Lw_law_178 : decode code 178 = .ok (.iconst 3, 1) := by decide +kernel
theorem d_Lw_law_179 : decode code 179 = .ok (.iadd, 1) := by decide +kernel
theorem d_Lw_law_180 : decode code 180 = .ok (.iaload, 1) := by decide +kernel
theorem d_Lw_law_181 : decode code 181 = .ok (.i2l, 1) := by decide +kernel
theorem d_Lw_law_182 : decode code 182 = .ok (.ldc2_w 18, 3) := by decide +kernel
theorem d_Lw_law_185 : decode code 185 = .ok (.land, 1) := by decide +kernel
theorem d_Lw_law_186 : decode code 186 = .ok (.lor, 1) := by decide +kernel
theorem d_Lw_law_187 : decode code 187 = .ok (.aload_n 0, 1) := by decide +kernel
theorem d_Lw_law_188 : decode code 188 = .ok (.iload_n 3, 1) := by decide +kernel
theorem d_Lw_law_189 : decode code 189 = .ok (.iconst 4, 1) := by decide +kernel
theorem d_Lw_law_190 : decode code 190 = .ok (.iadd, 1) := by decide +kernel
theorem d_Lw_law_191 : decode code 191 = .ok (.iaload, 1) := by decide +kernel
theorem d_Lw_law_192 : decode code 192 = .ok (.i2l, 1) := by decide +kernel
theorem d_Lw_law_193 : decode code 193 = .ok (.bipush 32, 2) := by decide +kernel
theorem d_Lw_law_195 : decode code 195 = .ok (.lshl, 1) := by decide +kernel
theorem d_Lw_law_196 : decode code 196 = .ok (.aload_n 0, 1) := by decide +kernel
theorem d_Lw_law_197 : decode code 197 = .ok (.iload_n 3, 1) := by decide +kernel
theorem d_Lw_law_198 : decode code 198 = .ok (.iconst 5, 1) := by decide +kernel
theorem d_Lw_law_199 : decode code 199 = .ok (.iadd, 1) := by decide +kernel
theorem d_Lw_law_200 : decode code 200 = .ok (.iaload, 1) := by decide +kernel
theorem d_Lw_law_201 : decode code 201 = .ok (.i2l, 1) := by decide +kernel
theorem d_Lw_law_202 : decode code 202 = .ok (.ldc2_w 18, 3) := by decide +kernel
theorem d_Lw_law_205 : decode code 205 = .ok (.land, 1) := by decide +kernel
theorem d_Lw_law_206 : decode code 206 = .ok (.lor, 1) := by decide +kernel
theorem d_Lw_law_207 : decode code 207 = .ok (.invokevirtual 20, 3) := by decide +kernel
theorem d_Lw_law_210 : decode code 210 = .ok (.aload_n 2, 1) := by decide +kernel
theorem d_Lw_law_211 : decode code 211 = .ok (.aload_n 0, 1) := by decide +kernel
theorem d_Lw_law_212 : decode code 212 = .ok (.iload_n 3, 1) := by decide +kernel
theorem d_Lw_law_213 : decode code 213 = .ok (.iconst 1, 1) := by decide +kernel
theorem d_Lw_law_214 : decode code 214 = .ok (.iadd, 1) := by decide +kernel
theorem d_Lw_law_215 : decode code 215 = .ok (.iaload, 1) := by decide +kernel
theorem d_Lw_law_216 : decode code 216 = .ok (.aload_n 0, 1) := by decide +kernel
theorem d_Lw_law_217 : decode code 217 = .ok (.iload_n 3, 1) := by decide +kernel
theorem d_Lw_law_218 : decode code 218 = .ok (.iconst 2, 1) := by decide +kernel
theorem d_Lw_law_219 : decode code 219 = .ok (.iadd, 1) := by decide +kernel
theorem d_Lw_law_220 : decode code 220 = .ok (.iaload, 1) := by decide +kernel
theorem d_Lw_law_221 : decode code 221 = .ok (.i2l, 1) := by decide +kernel
theorem d_Lw_law_222 : decode code 222 = .ok (.bipush 32, 2) := by decide +kernel
theorem d_Lw_law_224 : decode code 224 = .ok (.lshl, 1) := by decide +kernel
theorem d_Lw_law_225 : decode code 225 = .ok (.aload_n 0, 1) := by decide +kernel
theorem d_Lw_law_226 : decode code 226 = .ok (.iload_n 3, 1) := by decide +kernel
theorem d_Lw_law_227 : decode code 227 = .ok (.iconst 3, 1) := by decide +kernel
theorem d_Lw_law_228 : decode code 228 = .ok (.iadd, 1) := by decide +kernel
theorem d_Lw_law_229 : decode code 229 = .ok (.iaload, 1) := by decide +kernel
theorem d_Lw_law_230 : decode code 230 = .ok (.i2l, 1) := by decide +kernel
theorem d_Lw_law_231 : decode code 231 = .ok (.ldc2_w 18, 3) := by decide +kernel
theorem d_Lw_law_234 : decode code 234 = .ok (.land, 1) := by decide +kernel
theorem d_Lw_law_235 : decode code 235 = .ok (.lor, 1) := by decide +kernel
theorem d_Lw_law_236 : decode code 236 = .ok (.aload_n 0, 1) := by decide +kernel
theorem d_Lw_law_237 : decode code 237 = .ok (.iload_n 3, 1) := by decide +kernel
theorem d_Lw_law_238 : decode code 238 = .ok (.iconst 4, 1) := by decide +kernel
theorem d_Lw_law_239 : decode code 239 = .ok (.iadd, 1) := by decide +kernel
theorem d_Lw_law_240 : decode code 240 = .ok (.iaload, 1) := by decide +kernel
theorem d_Lw_law_241 : decode code 241 = .ok (.i2l, 1) := by decide +kernel
theorem d_Lw_law_242 : decode code 242 = .ok (.bipush 32, 2) := by decide +kernel
theorem d_Lw_law_244 : decode code 244 = .ok (.lshl, 1) := by decide +kernel
theorem d_Lw_law_245 : decode code 245 = .ok (.aload_n 0, 1) := by decide +kernel
theorem d_Lw_law_246 : decode code 246 = .ok (.iload_n 3, 1) := by decide +kernel
theorem d_Lw_law_247 : decode code 247 = .ok (.iconst 5, 1) := by decide +kernel
theorem d_Lw_law_248 : decode code 248 = .ok (.iadd, 1) := by decide +kernel
theorem d_Lw_law_249 : decode code 249 = .ok (.iaload, 1) := by decide +kernel
theorem d_Lw_law_250 : decode code 250 = .ok (.i2l, 1) := by decide +kernel
theorem d_Lw_law_251 : decode code 251 = .ok (.ldc2_w 18, 3) := by decide +kernel
theorem d_Lw_law_254 : decode code 254 = .ok (.land, 1) := by decide +kernel
theorem d_Lw_law_255 : decode code 255 = .ok (.lor, 1) := by decide +kernel
theorem d_Lw_law_256 : decode code 256 = .ok (.invokevirtual 24, 3) := by decide +kernel
theorem d_Lw_law_259 : decode code 259 = .ok (.if_icmp .eq 908, 3) := by decide +kernel
theorem d_Lw_law_262 : decode code 262 = .ok (.iconst 0, 1) := by decide +kernel
theorem d_Lw_law_263 : decode code 263 = .ok (.ireturn, 1) := by decide +kernel
theorem d_Lw_law_264 : decode code 264 = .ok (.aload_n 1, 1) := by decide +kernel
theorem d_Lw_law_265 : decode code 265 = .ok (.aload_n 0, 1) := by decide +kernel
theorem d_Lw_law_266 : decode code 266 = .ok (.iload_n 3, 1) := by decide +kernel
theorem d_Lw_law_267 : decode code 267 = .ok (.iconst 1, 1) := by decide +kernel
theorem d_Lw_law_268 : decode code 268 = .ok (.iadd, 1) := by decide +kernel
theorem d_Lw_law_269 : decode code 269 = .ok (.iaload, 1) := by decide +kernel
theorem d_Lw_law_270 : decode code 270 = .ok (.aload_n 0, 1) := by decide +kernel
theorem d_Lw_law_271 : decode code 271 = .ok (.iload_n 3, 1) := by decide +kernel
theorem d_Lw_law_272 : decode code 272 = .ok (.iconst 2, 1) := by decide +kernel
theorem d_Lw_law_273 : decode code 273 = .ok (.iadd, 1) := by decide +kernel
theorem d_Lw_law_274 : decode code 274 = .ok (.iaload, 1) := by decide +kernel
theorem d_Lw_law_275 : decode code 275 = .ok (.invokevirtual 25, 3) := by decide +kernel
theorem d_Lw_law_278 : decode code 278 = .ok (.aload_n 2, 1) := by decide +kernel
theorem d_Lw_law_279 : decode code 279 = .ok (.aload_n 0, 1) := by decide +kernel
theorem d_Lw_law_280 : decode code 280 = .ok (.iload_n 3, 1) := by decide +kernel
theorem d_Lw_law_281 : decode code 281 = .ok (.iconst 1, 1) := by decide +kernel
theorem d_Lw_law_282 : decode code 282 = .ok (.iadd, 1) := by decide +kernel
theorem d_Lw_law_283 : decode code 283 = .ok (.iaload, 1) := by decide +kernel
theorem d_Lw_law_284 : decode code 284 = .ok (.aload_n 0, 1) := by decide +kernel
theorem d_Lw_law_285 : decode code 285 = .ok (.iload_n 3, 1) := by decide +kernel
theorem d_Lw_law_286 : decode code 286 = .ok (.iconst 2, 1) := by decide +kernel
theorem d_Lw_law_287 : decode code 287 = .ok (.iadd, 1) := by decide +kernel
theorem d_Lw_law_288 : decode code 288 = .ok (.iaload, 1) := by decide +kernel
theorem d_Lw_law_289 : decode code 289 = .ok (.invokevirtual 29, 3) := by decide +kernel
theorem d_Lw_law_292 : decode code 292 = .ok (.if_icmp .eq 875, 3) := by decide +kernel
theorem d_Lw_law_295 : decode code 295 = .ok (.iconst 0, 1) := by decide +kernel
theorem d_Lw_law_296 : decode code 296 = .ok (.ireturn, 1) := by decide +kernel
theorem d_Lw_law_297 : decode code 297 = .ok (.aload_n 1, 1) := by decide +kernel
theorem d_Lw_law_298 : decode code 298 = .ok (.aload_n 0, 1) := by decide +kernel
theorem d_Lw_law_299 : decode code 299 = .ok (.iload_n 3, 1) := by decide +kernel

